/-! the two lexers -/
def isLt (b : Nat) : Bool := decide (97 ≤ b ∧ b ≤ 122)
def isFg (b : Nat) : Bool := decide (48 ≤ b ∧ b ≤ 57)
def isBk (b : Nat) : Bool := decide (b = 32 ∨ b = 10)
theorem cBk {b : Nat} (h : b < 256) : fX6_isBlank (sB b) = some (if isBk b = true then 1 else 0) := by
  have key : ∀ b : Fin 256, fX6_isBlank (sB b.val) = some (if isBk b.val = true then 1 else 0) := by decide +kernel
  exact key ⟨b, h⟩
theorem cLt6 {b : Nat} (h : b < 256) : fX6_isLetter (sB b) = some (if isLt b = true then 1 else 0) := by
  have key : ∀ b : Fin 256, fX6_isLetter (sB b.val) = some (if isLt b.val = true then 1 else 0) := by decide +kernel
  exact key ⟨b, h⟩
theorem cFg6 {b : Nat} (h : b < 256) : fX6_isFigure (sB b) = some (if isFg b = true then 1 else 0) := by
  have key : ∀ b : Fin 256, fX6_isFigure (sB b.val) = some (if isFg b.val = true then 1 else 0) := by decide +kernel
  exact key ⟨b, h⟩
theorem cSg {b : Nat} (h : b < 256) : (sB b = 59) = (b = 59) := by
  have key : ∀ b : Fin 256, (sB b.val = 59) = (b.val = 59) := fun b => propext (by revert b; decide +kernel)
  exact key ⟨b, h⟩
theorem mLt {b : Nat} (h : b < 256) : fX8_isLetter (nI b) = some (if isLt b = true then 1 else 0) := by
  have key : ∀ b : Fin 256, fX8_isLetter (nI b.val) = some (if isLt b.val = true then 1 else 0) := by decide +kernel
  exact key ⟨b, h⟩
theorem mFg {b : Nat} (h : b < 256) : fX8_isFigure (nI b) = some (if isFg b = true then 1 else 0) := by
  have key : ∀ b : Fin 256, fX8_isFigure (nI b.val) = some (if isFg b.val = true then 1 else 0) := by decide +kernel
  exact key ⟨b, h⟩
theorem mLtN : fX8_isLetter (-1000000) = some 0 := by decide
theorem mFgN : fX8_isFigure (-1000000) = some 0 := by decide
theorem sB_nI {b : Nat} (h : b < 128) : sB b = nI b := by
  have key : ∀ b : Fin 128, sB b.val = nI b.val := by decide +kernel
  exact key ⟨b, h⟩
def Tb (b : Nat → Nat) (u : Nat) (a m : St) : Prop := u ≤ 400 ∧ (∀ i, b i < 256) ∧ a 1 0 = nI u ∧ m 13 0 = nI u ∧ ∀ i, i < u → m 10 i = nI (b i) ∧ a 0 i = sB (b i)
theorem Tb_of {b : Nat → Nat} {u : Nat} {a m a' m' : St} (T : Tb b u a m) (e0 : a' 0 = a 0) (e1 : a' 1 = a 1) (f10 : m' 10 = m 10) (f13 : m' 13 = m 13) : Tb b u a' m' := by
  unfold Tb
  rw [e0, e1, f10, f13]
  exact T
theorem byte_ok {b : Nat → Nat} {u : Nat} {a m : St} (T : Tb b u a m) {j : Nat} (hj : j ≤ u) : fX8_byteAt m (nI j) = some (if j < u then nI (b j) else -1000000) := by
  obtain ⟨t1, t2, t3, t4, t5⟩ := T
  unfold fX8_byteAt
  by_cases c : j < u
  · rw [if_pos c, if_neg (by rw [t4, iLe (by omega) (by omega)]; omega), if_pos (by rw [iIn (by omega)]; omega), iCl (by omega), (t5 j c).1]
  · rw [if_neg c, if_pos (by rw [t4, iLe (by omega) (by omega)]; omega)]
theorem byN32 {b : Nat} (h : b < 256) (n : ¬ isBk b = true) : ¬ nI b = 32 ∧ ¬ nI b = 10 := by
  rw [show (32 : Int32) = nI 32 from rfl, show (10 : Int32) = nI 10 from rfl, iEq (by omega) (by decide), iEq (by omega) (by decide)]
  unfold isBk at n
  simp at n
  exact n
theorem skipL {b : Nat → Nat} {u : Nat} : ∀ d n i (a m : St), i + d = u → d < n → Tb b u a m → a 2 0 = nI i → m 14 0 = nI i → ∃ (j : Nat) (a' m' : St), i ≤ j ∧ j ≤ u ∧ fX6_readNext_L8 n a = some a' ∧ fX8_next_L0 n m = some m' ∧ a' 2 0 = nI j ∧ m' 14 0 = nI j ∧ (∀ k, ¬ k = 2 → a' k = a k) ∧ (∀ k, ¬ k = 14 → m' k = m k) := by
  intro d
  induction d with
  | zero =>
    intro n i a m e hn T h2 h14
    cases n with
    | zero => omega
    | succ n =>
      have hu := T.1
      refine ⟨i, a, m, Nat.le_refl i, by omega, ?_, ?_, h2, h14, fun _ _ => rfl, fun _ _ => rfl⟩
      · rw [fX6_readNext_L8, if_pos (by rw [h2, T.2.2.1, iLe (by omega) (by omega)]; omega)]
      · rw [fX8_next_L0, h14, byte_ok T (by omega), if_neg (by omega), q_b1s, if_neg (by decide), q_b1s, if_neg (by decide)]
  | succ d ih =>
    intro n i a m e hn T h2 h14
    cases n with
    | zero => omega
    | succ n =>
      have hu := T.1
      have hb := T.2.1 i
      have nle : ¬ a 1 0 ≤ a 2 0 := by rw [h2, T.2.2.1, iLe (by omega) (by omega)]; omega
      have ib : inb (a 2 0) 400 := by rw [h2, iIn (by omega)]; omega
      have e0 : a 0 (a 2 0).toNatClampNeg = sB (b i) := by rw [h2, iCl (by omega)]; exact (T.2.2.2.2 i (by omega)).2
      by_cases c : isBk (b i) = true
      · obtain ⟨j, a', m', f1, f2, f3, f4, f5, f6, f7, f8⟩ := ih n (i + 1) (u1 a 2 (nI (i + 1))) (u1 m 14 (nI (i + 1))) (by omega) (by omega) (Tb_of T rfl rfl rfl rfl) rfl rfl
        refine ⟨j, a', m', by omega, f2, ?_, ?_, f5, f6, fun k hk => by rw [f7 k hk, u1_ne hk], fun k hk => by rw [f8 k hk, u1_ne hk]⟩
        · rw [fX6_readNext_L8, if_neg nle, if_pos ib, e0, cBk hb, q_b1s, if_pos c, if_neg (by decide), q_lts, h2, nI_1]
          exact f3
        · rw [fX8_next_L0, h14, byte_ok T (by omega), if_pos (show i < u by omega), q_b1s]
          unfold isBk at c
          rcases of_decide_eq_true c with q | q
          · rw [if_pos (by rw [q]; rfl), q_lts, nI_1]; exact f4
          · rw [if_neg (by rw [q]; decide), q_b1s, if_pos (by rw [q]; rfl), q_lts, nI_1]; exact f4
      · obtain ⟨n1, n2⟩ := byN32 hb c
        refine ⟨i, a, m, Nat.le_refl i, by omega, ?_, ?_, h2, h14, fun _ _ => rfl, fun _ _ => rfl⟩
        · rw [fX6_readNext_L8, if_neg nle, if_pos ib, e0, cBk hb, q_b1s, if_neg c, if_pos rfl]
        · rw [fX8_next_L0, h14, byte_ok T (by omega), if_pos (show i < u by omega), q_b1s, if_neg n1, q_b1s, if_neg n2]
theorem lettL {b : Nat → Nat} {u : Nat} : ∀ d n n' i (a m : St), i + d = u → d < n → d < n' → Tb b u a m → a 3 0 = nI i → m 14 0 = nI i → ∃ (j : Nat) (a' m' : St), i ≤ j ∧ j ≤ u ∧ (∀ x, i ≤ x → x < j → isLt (b x) = true) ∧ fX6_readLetters_L0 n a = some a' ∧ fX8_next_L77 n' m = some m' ∧ a' 3 0 = nI j ∧ m' 14 0 = nI j ∧ (∀ k, ¬ k = 3 → a' k = a k) ∧ (∀ k, ¬ k = 14 → m' k = m k) := by
  intro d
  induction d with
  | zero =>
    intro n n' i a m e hn hn' T h2 h14
    cases n with
    | zero => omega
    | succ n =>
      cases n' with
      | zero => omega
      | succ n' =>
        have hu := T.1
        refine ⟨i, a, m, Nat.le_refl i, by omega, fun x a b => by omega, ?_, ?_, h2, h14, fun _ _ => rfl, fun _ _ => rfl⟩
        · rw [fX6_readLetters_L0, if_pos (by rw [h2, T.2.2.1, iLe (by omega) (by omega)]; omega)]
        · rw [fX8_next_L77, h14, byte_ok T (by omega), if_neg (by omega), q_b1s, mLtN, q_b1s, if_pos rfl]
  | succ d ih =>
    intro n n' i a m e hn hn' T h2 h14
    cases n with
    | zero => omega
    | succ n =>
      cases n' with
      | zero => omega
      | succ n' =>
        have hu := T.1
        have hb := T.2.1 i
        have nle : ¬ a 1 0 ≤ a 3 0 := by rw [h2, T.2.2.1, iLe (by omega) (by omega)]; omega
        have ib : inb (a 3 0) 400 := by rw [h2, iIn (by omega)]; omega
        have e0 : a 0 (a 3 0).toNatClampNeg = sB (b i) := by rw [h2, iCl (by omega)]; exact (T.2.2.2.2 i (by omega)).2
        by_cases c : isLt (b i) = true
        · obtain ⟨j, a', m', f1, f2, f0, f3, f4, f5, f6, f7, f8⟩ := ih n n' (i + 1) (u1 a 3 (nI (i + 1))) (u1 m 14 (nI (i + 1))) (by omega) (by omega) (by omega) (Tb_of T rfl rfl rfl rfl) rfl rfl
          refine ⟨j, a', m', by omega, f2, fun x x1 x2 => ?_, ?_, ?_, f5, f6, fun k hk => by rw [f7 k hk, u1_ne hk], fun k hk => by rw [f8 k hk, u1_ne hk]⟩
          · by_cases q : x = i
            · rw [q]; exact c
            · exact f0 x (by omega) x2
          · rw [fX6_readLetters_L0, if_neg nle, if_pos ib, e0, cLt6 hb, q_b1s, if_pos c, if_neg (by decide), q_lts, h2, nI_1]
            exact f3
          · rw [fX8_next_L77, h14, byte_ok T (by omega), if_pos (show i < u by omega), q_b1s, mLt hb, q_b1s, if_pos c, if_neg (by decide), q_lts, nI_1]
            exact f4
        · refine ⟨i, a, m, Nat.le_refl i, by omega, fun x a b => by omega, ?_, ?_, h2, h14, fun _ _ => rfl, fun _ _ => rfl⟩
          · rw [fX6_readLetters_L0, if_neg nle, if_pos ib, e0, cLt6 hb, q_b1s, if_neg c, if_pos rfl]
          · rw [fX8_next_L77, h14, byte_ok T (by omega), if_pos (show i < u by omega), q_b1s, mLt hb, q_b1s, if_neg c, if_pos rfl]
theorem figuL {b : Nat → Nat} {u : Nat} : ∀ d n n' i (a m : St), i + d = u → d < n → d < n' → Tb b u a m → a 3 0 = nI i → m 14 0 = nI i → ∃ (j : Nat) (a' m' : St), i ≤ j ∧ j ≤ u ∧ (∀ x, i ≤ x → x < j → isFg (b x) = true) ∧ fX6_readFigures_L0 n a = some a' ∧ fX8_next_L119 n' m = some m' ∧ a' 3 0 = nI j ∧ m' 14 0 = nI j ∧ (∀ k, ¬ k = 3 → a' k = a k) ∧ (∀ k, ¬ k = 14 → m' k = m k) := by
  intro d
  induction d with
  | zero =>
    intro n n' i a m e hn hn' T h2 h14
    cases n with
    | zero => omega
    | succ n =>
      cases n' with
      | zero => omega
      | succ n' =>
        have hu := T.1
        refine ⟨i, a, m, Nat.le_refl i, by omega, fun x a b => by omega, ?_, ?_, h2, h14, fun _ _ => rfl, fun _ _ => rfl⟩
        · rw [fX6_readFigures_L0, if_pos (by rw [h2, T.2.2.1, iLe (by omega) (by omega)]; omega)]
        · rw [fX8_next_L119, h14, byte_ok T (by omega), if_neg (by omega), q_b1s, mFgN, q_b1s, if_pos rfl]
  | succ d ih =>
    intro n n' i a m e hn hn' T h2 h14
    cases n with
    | zero => omega
    | succ n =>
      cases n' with
      | zero => omega
      | succ n' =>
        have hu := T.1
        have hb := T.2.1 i
        have nle : ¬ a 1 0 ≤ a 3 0 := by rw [h2, T.2.2.1, iLe (by omega) (by omega)]; omega
        have ib : inb (a 3 0) 400 := by rw [h2, iIn (by omega)]; omega
        have e0 : a 0 (a 3 0).toNatClampNeg = sB (b i) := by rw [h2, iCl (by omega)]; exact (T.2.2.2.2 i (by omega)).2
        by_cases c : isFg (b i) = true
        · obtain ⟨j, a', m', f1, f2, f0, f3, f4, f5, f6, f7, f8⟩ := ih n n' (i + 1) (u1 a 3 (nI (i + 1))) (u1 m 14 (nI (i + 1))) (by omega) (by omega) (by omega) (Tb_of T rfl rfl rfl rfl) rfl rfl
          refine ⟨j, a', m', by omega, f2, fun x x1 x2 => ?_, ?_, ?_, f5, f6, fun k hk => by rw [f7 k hk, u1_ne hk], fun k hk => by rw [f8 k hk, u1_ne hk]⟩
          · by_cases q : x = i
            · rw [q]; exact c
            · exact f0 x (by omega) x2
          · rw [fX6_readFigures_L0, if_neg nle, if_pos ib, e0, cFg6 hb, q_b1s, if_pos c, if_neg (by decide), q_lts, h2, nI_1]
            exact f3
          · rw [fX8_next_L119, h14, byte_ok T (by omega), if_pos (show i < u by omega), q_b1s, mFg hb, q_b1s, if_pos c, if_neg (by decide), q_lts, nI_1]
            exact f4
        · refine ⟨i, a, m, Nat.le_refl i, by omega, fun x a b => by omega, ?_, ?_, h2, h14, fun _ _ => rfl, fun _ _ => rfl⟩
          · rw [fX6_readFigures_L0, if_neg nle, if_pos ib, e0, cFg6 hb, q_b1s, if_neg c, if_pos rfl]
          · rw [fX8_next_L119, h14, byte_ok T (by omega), if_pos (show i < u by omega), q_b1s, mFg hb, q_b1s, if_neg c, if_pos rfl]
/-- a token from p up to q of the sort s: 0 the end, 1 a word, 2 a number, 3 the sign, 4 none of these -/
def TK (b : Nat → Nat) (u p q s : Nat) : Prop := p ≤ q ∧ q ≤ u ∧ s ≤ 4 ∧ (s = 1 → ∀ i, p ≤ i → i < q → isLt (b i) = true) ∧ (s = 2 → q ≤ p + 3 ∧ ∀ i, p ≤ i → i < q → isFg (b i) = true)
def Tok (b : Nat → Nat) (u p q s : Nat) (a m : St) : Prop := Tb b u a m ∧ TK b u p q s ∧ a 2 0 = nI p ∧ a 3 0 = nI q ∧ a 4 0 = nI s ∧ m 16 0 = nI p ∧ m 14 0 = nI q ∧ m 17 0 = nI q ∧ m 15 0 = nI ((s + 1) % 5)
theorem nextL {b : Nat → Nat} {u q : Nat} {a m : St} (T : Tb b u a m) (hq : q ≤ u) (h3 : a 3 0 = nI q) (h14 : m 14 0 = nI q) : ∃ (p' q' s' : Nat) (a' m' : St), fX6_readNext a = some a' ∧ fX8_next m = some m' ∧ Tok b u p' q' s' a' m' ∧ (∀ k, k < 2 → a' k = a k) ∧ (∀ k, ¬ k = 14 → ¬ k = 15 → ¬ k = 16 → ¬ k = 17 → m' k = m k) := by
  have hu := T.1
  obtain ⟨p, a1, m1, f1, f2, f3, f4, f5, f6, f7, f8⟩ := skipL (u - q) 5000 q (u1 a 2 (nI q)) m (by omega) (by omega) (Tb_of T rfl rfl rfl rfl) rfl h14
  have T1 : Tb b u (u1 a1 3 (nI (p + 1))) (u1 m1 16 (nI p)) := Tb_of T (by rw [u1_ne (by decide), f7 0 (by decide), u1_ne (by decide)]) (by rw [u1_ne (by decide), f7 1 (by decide), u1_ne (by decide)]) (by rw [u1_ne (by decide), f8 10 (by decide)]) (by rw [u1_ne (by decide), f8 13 (by decide)])
  have fa : ∀ k, k < 2 → (u1 a1 3 (nI (p + 1))) k = a k := fun k hk => by rw [u1_ne (by omega), f7 k (by omega), u1_ne (by omega)]
  have fm : ∀ k, ¬ k = 14 → ¬ k = 16 → (u1 m1 16 (nI p)) k = m k := fun k h1 h2 => by rw [u1_ne h2, f8 k h1]
  have g2 : (u1 a1 3 (nI (p + 1))) 2 0 = nI p := f5
  have g14 : (u1 m1 16 (nI p)) 14 0 = nI p := f6
  unfold fX6_readNext fX8_next
  rw [q_lts, h3, f3, q_b1s, q_lts, f5, nI_1, f4, q_b1s, q_lts (u1 m1 16 (m1 14 0)), f6, g14, byte_ok T1 f2, q_b1s]
  by_cases c : p < u
  · have hb := T.2.1 p
    have lt : (u1 a1 3 (nI (p + 1))) 2 0 < (u1 a1 3 (nI (p + 1))) 1 0 := by rw [g2, T1.2.2.1, iLt (by omega) (by omega)]; exact c
    have ib : inb ((u1 a1 3 (nI (p + 1))) 2 0) 400 := by rw [g2, iIn (by omega)]; omega
    have e0 : (u1 a1 3 (nI (p + 1))) 0 ((u1 a1 3 (nI (p + 1))) 2 0).toNatClampNeg = sB (b p) := by rw [g2, iCl (by omega)]; exact (T1.2.2.2.2 p c).2
    rw [if_pos lt, if_pos ib, e0, cLt6 hb, q_b1s, if_pos c, if_neg (nI_neNONE (by omega)), mLt hb, q_b1s]
    by_cases c1 : isLt (b p) = true
    · obtain ⟨j, a2, m2, y1, y2, y0, y3, y4, y5, y6, y7, y8⟩ := lettL (u - (p + 1)) 5000 4999 (p + 1) (u1 (u1 a1 3 (nI (p + 1))) 4 1) (u1 (u1 m1 16 (nI p)) 14 (nI (p + 1))) (by omega) (by omega) (by omega) (Tb_of T1 rfl rfl rfl rfl) rfl rfl
      have eL : fX8_next_L77 5000 (u1 m1 16 (nI p)) = some m2 := by
        rw [fX8_next_L77, g14, byte_ok T1 f2, if_pos c, q_b1s, mLt hb, q_b1s, if_pos c1, if_neg (by decide), q_lts, nI_1]
        exact y4
      unfold fX6_readLetters
      rw [if_pos c1, if_neg (show ¬ (1 : Int32) = 0 by decide), q_lts, y3, q_b1s, q_b1s, if_neg (show ¬ (1 : Int32) = 0 by decide), eL, q_b1s, q_lts, q_b1s, q_lts]
      refine ⟨p, j, 1, a2, _, rfl, rfl, ⟨?_, ⟨by omega, y2, by decide, fun _ x x1 x2 => ?_, fun q => by omega⟩, ?_, y5, ?_, ?_, y6, y6, rfl⟩, fun k hk => ?_, fun k k1 k2 k3 k4 => ?_⟩
      · exact Tb_of T1 (by rw [y7 0 (by decide), u1_ne (by decide)]) (by rw [y7 1 (by decide), u1_ne (by decide)]) (by rw [u1_ne (by decide), u1_ne (by decide), y8 10 (by decide), u1_ne (by decide)]) (by rw [u1_ne (by decide), u1_ne (by decide), y8 13 (by decide), u1_ne (by decide)])
      · by_cases z : x = p
        · rw [z]; exact c1
        · exact y0 x (by omega) x2
      · rw [y7 2 (by decide)]; exact f5
      · rw [y7 4 (by decide)]; rfl
      · show m2 16 0 = _; rw [y8 16 (by decide)]; rfl
      · rw [y7 k (by omega), u1_ne (by omega), fa k hk]
      · rw [u1_ne k4, u1_ne k2, y8 k k1, u1_ne k1, fm k k1 k3]
    · rw [if_neg c1, if_pos rfl, if_pos ib, cFg6 hb, q_b1s, if_pos rfl, mFg hb, q_b1s]
      by_cases c2 : isFg (b p) = true
      · obtain ⟨j, a2, m2, y1, y2, y0, y3, y4, y5, y6, y7, y8⟩ := figuL (u - (p + 1)) 5000 4999 (p + 1) (u1 a1 3 (nI (p + 1))) (u1 (u1 m1 16 (nI p)) 14 (nI (p + 1))) (by omega) (by omega) (by omega) (Tb_of T1 rfl rfl rfl rfl) rfl rfl
        have eL : fX8_next_L119 5000 (u1 m1 16 (nI p)) = some m2 := by
          rw [fX8_next_L119, g14, byte_ok T1 f2, if_pos c, q_b1s, mFg hb, q_b1s, if_pos c2, if_neg (by decide), q_lts, nI_1]
          exact y4
        have z2 : a2 2 0 = nI p := by rw [y7 2 (by decide)]; exact f5
        have z16 : m2 16 0 = nI p := by rw [y8 16 (by decide)]; rfl
        unfold fX6_readFigures
        rw [if_pos c2, if_neg (show ¬ (1 : Int32) = 0 by decide), y3, q_b1s, q_b1s, if_neg (show ¬ (1 : Int32) = 0 by decide), eL, q_b1s, y5, z2, y6, z16, iSub (by omega)]
        have le3 : (nI (j - p) ≤ 3) = (j - p ≤ 3) := iLe (by omega) (show 3 < 2 ^ 31 by decide)
        by_cases c3 : j - p ≤ 3
        · rw [if_pos (by rw [le3]; exact c3), if_pos (by rw [le3]; exact c3), q_b1s, q_lts, q_b1s, q_lts, q_b1s, q_lts]
          refine ⟨p, j, 2, _, _, rfl, rfl, ⟨?_, ⟨by omega, y2, by decide, fun q => by omega, fun _ => ⟨by omega, fun x x1 x2 => ?_⟩⟩, z2, y5, rfl, z16, y6, y6, rfl⟩, fun k hk => ?_, fun k k1 k2 k3 k4 => ?_⟩
          · exact Tb_of T1 (by rw [u1_ne (by decide), y7 0 (by decide)]) (by rw [u1_ne (by decide), y7 1 (by decide)]) (by rw [u1_ne (by decide), u1_ne (by decide), y8 10 (by decide), u1_ne (by decide)]) (by rw [u1_ne (by decide), u1_ne (by decide), y8 13 (by decide), u1_ne (by decide)])
          · by_cases z : x = p
            · rw [z]; exact c2
            · exact y0 x (by omega) x2
          · rw [u1_ne (by omega), y7 k (by omega), fa k hk]
          · rw [u1_ne k4, u1_ne k2, y8 k k1, u1_ne k1, fm k k1 k3]
        · rw [if_neg (by rw [le3]; exact c3), if_neg (by rw [le3]; exact c3), q_b1s, q_lts, q_b1s, q_lts, q_b1s, q_lts]
          refine ⟨p, j, 4, _, _, rfl, rfl, ⟨?_, ⟨by omega, y2, by decide, fun q => by omega, fun q => by omega⟩, z2, y5, rfl, z16, y6, y6, rfl⟩, fun k hk => ?_, fun k k1 k2 k3 k4 => ?_⟩
          · exact Tb_of T1 (by rw [u1_ne (by decide), y7 0 (by decide)]) (by rw [u1_ne (by decide), y7 1 (by decide)]) (by rw [u1_ne (by decide), u1_ne (by decide), y8 10 (by decide), u1_ne (by decide)]) (by rw [u1_ne (by decide), u1_ne (by decide), y8 13 (by decide), u1_ne (by decide)])
          · rw [u1_ne (by omega), y7 k (by omega), fa k hk]
          · rw [u1_ne k4, u1_ne k2, y8 k k1, u1_ne k1, fm k k1 k3]
      · have e59 : (nI (b p) = 59) = (b p = 59) := iEq (by omega) (show 59 < 2 ^ 31 by decide)
        rw [if_neg c2, if_pos rfl, if_pos ib, if_pos rfl, q_lts, nI_1]
        by_cases c3 : b p = 59
        · rw [if_pos (by rw [cSg hb]; exact c3), if_pos (by rw [e59]; exact c3), q_b1s, q_lts, q_b1s, q_lts, q_b1s, q_lts]
          refine ⟨p, p + 1, 3, _, _, rfl, rfl, ⟨?_, ⟨by omega, by omega, by decide, fun q => by omega, fun q => by omega⟩, f5, rfl, rfl, rfl, rfl, rfl, rfl⟩, fun k hk => ?_, fun k k1 k2 k3 k4 => ?_⟩
          · exact Tb_of T1 rfl rfl rfl rfl
          · rw [u1_ne (by omega), fa k hk]
          · rw [u1_ne k4, u1_ne k2, u1_ne k1, fm k k1 k3]
        · rw [if_neg (by rw [cSg hb]; exact c3), if_neg (by rw [e59]; exact c3), q_b1s, q_lts, q_b1s, q_lts, q_b1s, q_lts]
          refine ⟨p, p + 1, 4, _, _, rfl, rfl, ⟨?_, ⟨by omega, by omega, by decide, fun q => by omega, fun q => by omega⟩, f5, rfl, rfl, rfl, rfl, rfl, rfl⟩, fun k hk => ?_, fun k k1 k2 k3 k4 => ?_⟩
          · exact Tb_of T1 rfl rfl rfl rfl
          · rw [u1_ne (by omega), fa k hk]
          · rw [u1_ne k4, u1_ne k2, u1_ne k1, fm k k1 k3]
  · have nlt : ¬ (u1 a1 3 (nI (p + 1))) 2 0 < (u1 a1 3 (nI (p + 1))) 1 0 := by rw [g2, T1.2.2.1, iLt (by omega) (by omega)]; exact c
    rw [if_neg nlt, if_neg c, if_pos rfl, q_lts, q_lts, q_lts, q_b1s, q_lts]
    refine ⟨p, p, 0, _, _, rfl, rfl, ⟨?_, ⟨by omega, f2, by decide, fun q => by omega, fun q => by omega⟩, f5, f5, rfl, rfl, f6, f6, rfl⟩, fun k hk => ?_, fun k k1 k2 k3 k4 => ?_⟩
    · exact Tb_of T1 rfl rfl rfl rfl
    · rw [u1_ne (by omega), u1_ne (by omega), fa k hk]
    · rw [u1_ne k4, u1_ne k2, fm k k1 k3]
