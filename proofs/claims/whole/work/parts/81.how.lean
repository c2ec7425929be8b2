/-! how -/
def isBest (P : Nat → Nat) (S : Nat → Prop) : Option Nat → Prop
  | none => ∀ w, ¬ S w
  | some b => S b ∧ ∀ w, S w → P w < P b ∨ (P w = P b ∧ b ≤ w)
def bestC (P : Nat → Nat) : Option Nat → Nat → Option Nat
  | none, w => some w
  | some b, w => if P b < P w ∨ (P w = P b ∧ w < b) then some w else some b
def bestM (P : Nat → Nat) : Option Nat → Nat → Option Nat
  | none, w => some w
  | some b, w => if P b < P w then some w else some b
theorem bestC_some (P : Nat → Nat) (b w : Nat) : bestC P (some b) w = if P b < P w ∨ (P w = P b ∧ w < b) then some w else some b := rfl
theorem bestM_some (P : Nat → Nat) (b w : Nat) : bestM P (some b) w = if P b < P w then some w else some b := rfl
theorem bestC_ok {P : Nat → Nat} {S S' : Nat → Prop} {o : Option Nat} {w : Nat} (h : isBest P S o) (e : ∀ x, S' x ↔ S x ∨ x = w) : isBest P S' (bestC P o w) := by
  cases o with
  | none =>
    refine ⟨(e w).mpr (Or.inr rfl), fun x hx => ?_⟩
    rcases (e x).mp hx with q | q
    · exact absurd q (h x)
    · subst q; exact Or.inr ⟨rfl, Nat.le_refl x⟩
  | some b =>
    rw [bestC_some]
    by_cases c : P b < P w ∨ (P w = P b ∧ w < b)
    · rw [if_pos c]
      refine ⟨(e w).mpr (Or.inr rfl), fun x hx => ?_⟩
      rcases (e x).mp hx with q | q
      · have := h.2 x q; omega
      · subst q; exact Or.inr ⟨rfl, Nat.le_refl x⟩
    · rw [if_neg c]
      refine ⟨(e b).mpr (Or.inl h.1), fun x hx => ?_⟩
      rcases (e x).mp hx with q | q
      · exact h.2 x q
      · subst q; omega
theorem bestM_ok {P : Nat → Nat} {S S' : Nat → Prop} {o : Option Nat} {w : Nat} (h : isBest P S o) (e : ∀ x, S' x ↔ S x ∨ x = w) (lo : ∀ x, S x → x < w) : isBest P S' (bestM P o w) := by
  have := bestC_ok h e
  cases o with
  | none => exact this
  | some b =>
    have hb := lo b h.1
    have q : bestM P (some b) w = bestC P (some b) w := by
      rw [bestM_some, bestC_some]
      by_cases c : P b < P w
      · rw [if_pos c, if_pos (Or.inl c)]
      · rw [if_neg c, if_neg (by omega)]
    rw [q]
    exact this
theorem isBest_congr {P : Nat → Nat} {S S' : Nat → Prop} {o : Option Nat} (h : isBest P S o) (e : ∀ x, S' x ↔ S x) : isBest P S' o := by
  cases o with
  | none => exact fun w q => h w ((e w).mp q)
  | some b => exact ⟨(e b).mpr h.1, fun w q => h.2 w ((e w).mp q)⟩
theorem isBest_uni {P : Nat → Nat} {S : Nat → Prop} {a b : Option Nat} (h1 : isBest P S a) (h2 : isBest P S b) : a = b := by
  cases a with
  | none =>
    cases b with
    | none => rfl
    | some b => exact absurd h2.1 (h1 b)
  | some a =>
    cases b with
    | none => exact absurd h1.1 (h2 a)
    | some b =>
      have q1 := h1.2 b h2.1
      have q2 := h2.2 a h1.1
      congr 1
      omega
/-- a graver set may be told in a smaller one of the same answers -/
theorem isBest_sub {P : Nat → Nat} {S S' : Nat → Prop} {o : Option Nat} (h : isBest P S' o) (e : ∀ x, S x → S' x) (f : ∀ x, S' x → ¬ S x → ∃ y, S y ∧ P y = P x ∧ y < x) : isBest P S o := by
  cases o with
  | none => exact fun w q => h w (e w q)
  | some b =>
    refine ⟨?_, fun w q => h.2 w (e w q)⟩
    apply Classical.byContradiction
    intro n
    obtain ⟨y, h1, h2, h3⟩ := f b h.1 n
    have := h.2 y (e y h1)
    omega
theorem frac_le {A B A' B' N u u' : Nat} (hN : 0 < N) (h : A * B = N) (h' : A' * B' = N) : (A * u ≤ A' * u') ↔ (u * B' ≤ u' * B) := by
  have hB : 0 < B := Nat.pos_of_ne_zero (fun q => by rw [q, Nat.mul_zero] at h; omega)
  have hB' : 0 < B' := Nat.pos_of_ne_zero (fun q => by rw [q, Nat.mul_zero] at h'; omega)
  have e1 : (B * B') * (A * u) = N * (u * B') := by
    rw [← h]; simp only [Nat.mul_comm, Nat.mul_left_comm]
  have e2 : (B * B') * (A' * u') = N * (u' * B) := by
    rw [← h']; simp only [Nat.mul_comm, Nat.mul_left_comm]
  constructor
  · intro q
    have := Nat.mul_le_mul_left (B * B') q
    rw [e1, e2] at this
    exact Nat.le_of_mul_le_mul_left this hN
  · intro q
    have := Nat.mul_le_mul_left N q
    rw [← e1, ← e2] at this
    exact Nat.le_of_mul_le_mul_left this (Nat.mul_pos hB hB')
def hcn (h : Hl) (s : Nat) : Nat := CN (fun g => decide (¬ heard h g &&& s = 0)) (h 10 0)
theorem hcn_le (h : Hl) (s : Nat) : hcn h s ≤ h 10 0 := CN_le _ _
def PW (h : Hl) (m : Nat) (w : Nat) : Nat := passN h m (w % 16) (w / 16) 0
theorem heard_lt2 (h : Hl) (g : Nat) : heard h g < 2 ^ h 11 0 := bs_lt _ _
theorem and_mod2 {x s k : Nat} (h : x < 2 ^ k) : x &&& s = x &&& (s % 2 ^ k) := by
  apply Nat.eq_of_testBit_eq
  intro i
  rw [Nat.testBit_and, Nat.testBit_and, Nat.testBit_mod_two_pow]
  by_cases c : i < k
  · simp [c]
  · have : x.testBit i = false := Nat.testBit_lt_two_pow (Nat.lt_of_lt_of_le h (Nat.pow_le_pow_right (by decide) (by omega)))
    simp [this]
theorem hcn_mod (h : Hl) (s : Nat) : hcn h (s % 2 ^ h 11 0) = hcn h s := by
  unfold hcn
  congr 1
  funext g
  rw [← and_mod2 (heard_lt2 h g)]
theorem PW_mod (h : Hl) (m hr s : Nat) : passN h m (s % 2 ^ h 11 0) hr 0 = passN h m s hr 0 := by
  have e : mindB h m (s % 2 ^ h 11 0) 0 = mindB h m s 0 := by
    funext g
    unfold mindB
    rw [← and_mod2 (heard_lt2 h g)]
  unfold passN
  rw [e]
theorem hearingL (h : Hl) (v : HV h) {s : Nat} : ∀ d n g, g + d = h 10 0 → d < n → fX3_hearing_L4 (nI s) (cst h) n (nI (CN (fun g => decide (¬ heard h g &&& s = 0)) g)) (nI g) = some (nI (hcn h s)) := by
  have h0 := v.1
  intro d
  induction d with
  | zero =>
    intro n g e hn
    cases n with
    | zero => omega
    | succ n =>
      have e : g = h 10 0 := by omega
      subst e
      rw [fX3_hearing_L4]
      simp only [cst_at, iLe (show h 10 0 < 2 ^ 31 by omega) (show h 10 0 < 2 ^ 31 by omega), Nat.le_refl, if_true]
      rfl
  | succ d ih =>
    intro n g e hn
    cases n with
    | zero => omega
    | succ n =>
      have hg : g < h 10 0 := by omega
      have IH := ih n (g + 1) (by omega) (by omega)
      have hl := heard_lt h v g
      have a2 : heard h g &&& s < 2 ^ 31 := Nat.lt_of_le_of_lt Nat.and_le_left (by omega)
      rw [fX3_hearing_L4]
      simp only [cst_at, z_0, z_1, z_2, z_3, z_4, z_5, z_6, z_7, z_8, z_9, z_10, z_11, z_12, z_13, z_14, z_15, z_16, z_20, z_21, z_22, z_23, z_24, z_30, z_31, z_32, z_35, z_40, z_47, z_48, z_57, z_59, z_97, z_100, z_122, z_400, z_1000, iLe (show h 10 0 < 2 ^ 31 by omega) (show g < 2 ^ 31 by omega), show ¬ h 10 0 ≤ g by omega, if_false, heard_ok h v hg, q_b1s, iAnd, iEq a2 (show 0 < 2 ^ 31 by decide), iAdd]
      by_cases c : heard h g &&& s = 0
      · rw [if_pos c, q_b1s]
        have : CN (fun g => decide (¬ heard h g &&& s = 0)) (g + 1) = CN (fun g => decide (¬ heard h g &&& s = 0)) g := by
          show (if _ then _ else _) = _
          rw [if_neg (by simp [c])]
        rw [this] at IH
        exact IH
      · rw [if_neg c, q_b1s]
        have : CN (fun g => decide (¬ heard h g &&& s = 0)) (g + 1) = CN (fun g => decide (¬ heard h g &&& s = 0)) g + 1 := by
          show (if _ then _ else _) = _
          rw [if_pos (by simp [c])]
        rw [this] at IH
        exact IH
theorem hearing_ok (h : Hl) (v : HV h) (s : Nat) : fX3_hearing (cst h) (nI s) = some (nI (hcn h s)) := by
  have h0 := v.1
  unfold fX3_hearing
  have e : fX3_hearing_L4 (nI s) (cst h) 5000 0 0 = some (nI (hcn h s)) := hearingL h v (h 10 0) 5000 0 (by omega) (by omega)
  rw [e]
  rfl
def PL (h : Hl) (m : Nat) : Option Nat → Int64
  | none => -1
  | some b => lN (PW h m b)
theorem PW_lt (h : Hl) (v : HV h) (m w : Nat) : PW h m w < 2 ^ 31 := Nat.lt_of_le_of_lt (passN_le h v m _ _ 0) (by decide)
theorem m1lt {a : Nat} (h : a < 2 ^ 31) : ((-1 : Int64) < lN a) = True := by
  apply eq_true
  rw [Int64.lt_iff_toInt_lt, lN_toInt h, show (-1 : Int64).toInt = -1 from rfl]
  omega
/-- what the class looked at: sets below s whole, of s the hours below hr -/
def SC (h : Hl) (q fr to s hr : Nat) (w : Nat) : Prop := q ≤ hcn h (w % 16) ∧ fr ≤ w / 16 ∧ w / 16 ≤ to ∧ (w % 16 < s ∨ (w % 16 = s ∧ w / 16 < hr))
theorem wayL (h : Hl) (v : HV h) {m q fr to s : Nat} (hm : m < 16) (hq : q ≤ hcn h s) (hs : s < 16) (ht : to < 12) : ∀ d n hr o, hr + d = to + 1 → fr ≤ hr → d < n → (∀ b, o = some b → b < 192) → isBest (PW h m) (SC h q fr to s hr) o → ∃ o', fX3_bestWay_L53 (nI to) (nI (minding h m s 0)) (cst h) 1 (nI s) n (tI o) (PL h m o) (nI hr) = some (tI o', PL h m o') ∧ isBest (PW h m) (SC h q fr to (s + 1) fr) o' ∧ ∀ b, o' = some b → b < 192 := by
  intro d
  induction d with
  | zero =>
    intro n hr o e hf hn ho hB
    cases n with
    | zero => omega
    | succ n =>
      refine ⟨o, ?_, isBest_congr hB (fun w => ?_), ho⟩
      · rw [fX3_bestWay_L53]
        rw [if_neg (show ¬ (1 : Int32) = 0 by decide), if_pos (by rw [iLt (show to < 2 ^ 31 by omega) (show hr < 2 ^ 31 by omega)]; omega)]
      · unfold SC; omega
  | succ d ih =>
    intro n hr o e hf hn ho hB
    cases n with
    | zero => omega
    | succ n =>
      have e1 : fX3_passing (cst h) (nI (minding h m s 0)) (nI hr) 0 = some (lN (passN h m s hr 0)) := passing_ok h v (by omega) (show 0 < 2 ^ 31 by decide)
      have ew : PW h m (16 * hr + s) = passN h m s hr 0 := by unfold PW; rw [show (16 * hr + s) % 16 = s by omega, show (16 * hr + s) / 16 = hr by omega]
      have hB' : isBest (PW h m) (SC h q fr to s (hr + 1)) (bestC (PW h m) o (16 * hr + s)) := by
        refine bestC_ok hB (fun x => ?_)
        unfold SC
        constructor
        · intro z
          by_cases c : x = 16 * hr + s
          · exact Or.inr c
          · refine Or.inl ⟨z.1, z.2.1, z.2.2.1, ?_⟩
            have := z.2.2.2
            omega
        · intro z
          rcases z with z | z
          · have := z.2.2.2
            exact ⟨z.1, z.2.1, z.2.2.1, by omega⟩
          · subst z
            rw [show (16 * hr + s) % 16 = s by omega, show (16 * hr + s) / 16 = hr by omega]
            exact ⟨hq, by omega, by omega, by omega⟩
      have ho' : ∀ b, bestC (PW h m) o (16 * hr + s) = some b → b < 192 := by
        intro b
        cases o with
        | none => intro z; cases z; omega
        | some a =>
          rw [bestC_some]
          have := ho a rfl
          split <;> intro z <;> cases z <;> omega
      obtain ⟨o', f1, f2⟩ := ih n (hr + 1) _ (by omega) (by omega) (by omega) ho' hB'
      refine ⟨o', ?_, f2⟩
      rw [fX3_bestWay_L53]
      rw [if_neg (show ¬ (1 : Int32) = 0 by decide), if_neg (by rw [iLt (show to < 2 ^ 31 by omega) (show hr < 2 ^ 31 by omega)]; omega), e1, q_b1s, ← ew]
      rw [show (16 : Int32) = nI 16 from rfl, show (1 : Int32) = nI 1 from rfl, iMul, iAdd, q_lts, iAdd]
      have hp := PW_lt h v m (16 * hr + s)
      cases o with
      | none =>
        rw [if_pos (show 0 < lg_cmp (lN (PW h m (16 * hr + s))) (PL h m none) by rw [cGt]; show (-1 : Int64) < _; rw [m1lt hp]; trivial), q_b2s]
        exact f1
      | some b =>
        have hb := ho b rfl
        have hpb := PW_lt h v m b
        have k1 : (0 < lg_cmp (lN (PW h m (16 * hr + s))) (PL h m (some b))) = (PW h m b < PW h m (16 * hr + s)) := by
          rw [cGt]; exact propext (pk_lLT (show PW h m b < 2 ^ 63 by omega) (show PW h m (16 * hr + s) < 2 ^ 63 by omega))
        have k2 : (lg_cmp (lN (PW h m (16 * hr + s))) (PL h m (some b)) = 0) = (PW h m (16 * hr + s) = PW h m b) := by
          rw [cEq]; exact lN_inj63 (by omega) (by omega)
        rw [bestC_some] at f1
        by_cases c1 : PW h m b < PW h m (16 * hr + s)
        · rw [if_pos (by rw [k1]; exact c1), q_b2s]
          rw [if_pos (Or.inl c1)] at f1
          exact f1
        · by_cases c2 : PW h m (16 * hr + s) = PW h m b
          · by_cases c3 : b ≤ 16 * hr + s
            · rw [if_neg (by rw [k1]; exact c1), if_pos (by rw [k2]; exact c2), if_pos (by rw [tI_some, iLe (show b < 2 ^ 31 by omega) (show 16 * hr + s < 2 ^ 31 by omega)]; exact c3), q_b2s]
              rw [if_neg (by omega)] at f1
              exact f1
            · rw [if_neg (by rw [k1]; exact c1), if_pos (by rw [k2]; exact c2), if_neg (by rw [tI_some, iLe (show b < 2 ^ 31 by omega) (show 16 * hr + s < 2 ^ 31 by omega)]; exact c3), q_b2s]
              rw [if_pos (by omega)] at f1
              exact f1
          · rw [if_neg (by rw [k1]; exact c1), if_neg (by rw [k2]; exact c2), q_b2s]
            rw [if_neg (by omega)] at f1
            exact f1
theorem waysL (h : Hl) (v : HV h) {m q fr to : Nat} (hm : m < 16) (hq : q < 2 ^ 31) (ht : to < 12) (hft : fr ≤ to) : ∀ d n s o, s + d = 2 ^ h 11 0 → d < n → (∀ b, o = some b → b < 192) → isBest (PW h m) (SC h q fr to s fr) o → ∃ o', fX3_bestWay_L12 (nI m) (nI q) (nI fr) (nI to) (cst h) n (tI o) (PL h m o) (nI s) = some (tI o') ∧ isBest (PW h m) (SC h q fr to (2 ^ h 11 0) fr) o' := by
  have h0 := v.2.1
  have hp := pw4 h0
  have h10 := v.1
  intro d
  induction d with
  | zero =>
    intro n s o e hn ho hB
    cases n with
    | zero => omega
    | succ n =>
      have e : s = 2 ^ h 11 0 := by omega
      subst e
      refine ⟨o, ?_, hB⟩
      rw [fX3_bestWay_L12, cst_at, show (1 : Int32) = nI 1 from rfl, show (31 : Int32) = nI 31 from rfl, iShl (show h 11 0 < 31 by omega), if_pos (by rw [iLe (show 2 ^ h 11 0 < 2 ^ 31 by omega) (show 2 ^ h 11 0 < 2 ^ 31 by omega)]; exact Nat.le_refl _)]
  | succ d ih =>
    intro n s o e hn ho hB
    cases n with
    | zero => omega
    | succ n =>
      have hcl := hcn_le h s
      have e1 : fX3_minding (cst h) (nI m) (nI s) 0 = some (nI (minding h m s 0)) := minding_ok h v hm (show s < 16 by omega) (show 0 < 2 ^ 31 by decide)
      rw [fX3_bestWay_L12, cst_at, e1, q_b1s, hearing_ok h v s, q_b1s]
      rw [show (1 : Int32) = nI 1 from rfl, show (31 : Int32) = nI 31 from rfl, iShl (show h 11 0 < 31 by omega), iAdd, if_neg (by rw [iLe (show 2 ^ h 11 0 < 2 ^ 31 by omega) (show s < 2 ^ 31 by omega)]; omega)]
      by_cases c : hcn h s < q
      · rw [if_pos (by rw [iLt (show hcn h s < 2 ^ 31 by omega) hq]; exact c), q_b1s]
        have e2 : fX3_bestWay_L53 (nI to) (nI (minding h m s 0)) (cst h) 0 (nI s) 5000 (tI o) (PL h m o) (nI fr) = some (tI o, PL h m o) := by
          rw [fX3_bestWay_L53, if_pos rfl]
        rw [e2, q_b2s]
        refine ih n (s + 1) o (by omega) (by omega) ho (isBest_congr hB (fun w => ?_))
        unfold SC
        constructor
        · intro z
          refine ⟨z.1, z.2.1, z.2.2.1, ?_⟩
          have h1 := z.1
          by_cases k : w % 16 = s
          · rw [k] at h1; omega
          · omega
        · intro z; exact ⟨z.1, z.2.1, z.2.2.1, by omega⟩
      · rw [if_neg (by rw [iLt (show hcn h s < 2 ^ 31 by omega) hq]; exact c), q_b1s]
        obtain ⟨o', f1, f2, f3⟩ := wayL h v (fr := fr) hm (q := q) (s := s) (by omega) (by omega) ht (to + 1 - fr) 5000 fr o (by omega) (Nat.le_refl _) (by omega) ho hB
        rw [show (nI 1 : Int32) = 1 from rfl, f1, q_b2s]
        exact ih n (s + 1) o' (by omega) (by omega) f3 f2
theorem way_ok (h : Hl) (v : HV h) {m q fr to : Nat} (hm : m < 16) (hq : q < 2 ^ 31) (ht : to < 12) (hft : fr ≤ to) : ∃ o', fX3_bestWay (cst h) (nI m) (nI q) (nI fr) (nI to) = some (tI o') ∧ isBest (PW h m) (SC h q fr to (2 ^ h 11 0) fr) o' := by
  have hp := pw4 v.2.1
  obtain ⟨o', e, b⟩ := waysL h v hm hq ht hft (2 ^ h 11 0) 5000 0 none (by omega) (by omega) (fun b z => by cases z) (fun w z => by unfold SC at z; omega)
  have e : fX3_bestWay_L12 (nI m) (nI q) (nI fr) (nI to) (cst h) 5000 (-1000000) (-1) 0 = some (tI o') := e
  refine ⟨o', ?_, b⟩
  unfold fX3_bestWay
  rw [e]
  rfl
section M81
variable {h : Hl} {r : Nat → Nat} {s : St}
theorem m_hearL (v : HV h) (R : RR h r) (M : HM s r) {z : Nat} : ∀ d n g, g + d = h 10 0 → d < n → fX8_hearers_L4 (nI z) s n (nI (CN (fun g => decide (¬ heard h g &&& z = 0)) g)) (nI g) = some (nI (hcn h z)) := by
  have h0 := v.1
  have r0 : s 5 0 = nI (h 10 0) := by rw [M, R.1]
  intro d
  induction d with
  | zero =>
    intro n g e hn
    cases n with
    | zero => omega
    | succ n =>
      have e : g = h 10 0 := by omega
      subst e
      rw [fX8_hearers_L4]
      simp only [z_0, z_1, z_2, z_3, z_4, z_5, z_6, z_7, z_8, z_9, z_10, z_11, z_12, z_13, z_14, z_15, z_16, z_20, z_21, z_22, z_23, z_24, z_30, z_31, z_32, z_35, z_40, z_47, z_48, z_57, z_59, z_97, z_100, z_122, z_400, z_1000, iIn (show 0 < 2 ^ 31 by decide), iCl (show 0 < 2 ^ 31 by decide), show 0 < 59 by decide, if_true, r0, iLe (show h 10 0 < 2 ^ 31 by omega) (show h 10 0 < 2 ^ 31 by omega), Nat.le_refl]
      rfl
  | succ d ih =>
    intro n g e hn
    cases n with
    | zero => omega
    | succ n =>
      have hg : g < h 10 0 := by omega
      have IH := ih n (g + 1) (by omega) (by omega)
      have hl := heard_lt h v g
      have a2 : heard h g &&& z < 2 ^ 31 := Nat.lt_of_le_of_lt Nat.and_le_left (by omega)
      rw [fX8_hearers_L4]
      simp only [z_0, z_1, z_2, z_3, z_4, z_5, z_6, z_7, z_8, z_9, z_10, z_11, z_12, z_13, z_14, z_15, z_16, z_20, z_21, z_22, z_23, z_24, z_30, z_31, z_32, z_35, z_40, z_47, z_48, z_57, z_59, z_97, z_100, z_122, z_400, z_1000, iIn (show 0 < 2 ^ 31 by decide), iCl (show 0 < 2 ^ 31 by decide), show 0 < 59 by decide, if_true, r0, iLe (show h 10 0 < 2 ^ 31 by omega) (show g < 2 ^ 31 by omega), show ¬ h 10 0 ≤ g by omega, if_false, m_heard v R M hg, q_b1s, iAnd, iEq a2 (show 0 < 2 ^ 31 by decide)]
      by_cases c : heard h g &&& z = 0
      · rw [if_pos c, q_b1s, iAdd, iAdd]
        have : CN (fun g => decide (¬ heard h g &&& z = 0)) (g + 1) = CN (fun g => decide (¬ heard h g &&& z = 0)) g := by
          show (if _ then _ else _) = _
          rw [if_neg (by simp [c])]
        rw [this] at IH
        exact IH
      · rw [if_neg c, q_b1s, iAdd, iAdd]
        have : CN (fun g => decide (¬ heard h g &&& z = 0)) (g + 1) = CN (fun g => decide (¬ heard h g &&& z = 0)) g + 1 := by
          show (if _ then _ else _) = _
          rw [if_pos (by simp [c])]
        rw [this] at IH
        exact IH
theorem m_hearers (v : HV h) (R : RR h r) (M : HM s r) (z : Nat) : fX8_hearers s (nI z) = some (nI (hcn h z)) := by
  have h0 := v.1
  unfold fX8_hearers
  have e : fX8_hearers_L4 (nI z) s 5000 0 0 = some (nI (hcn h z)) := m_hearL v R M (h 10 0) 5000 0 (by omega) (by omega)
  rw [e]
  rfl
def SM (h : Hl) (q fr to hr s : Nat) (w : Nat) : Prop := q ≤ hcn h (w % 16) ∧ fr ≤ w / 16 ∧ w / 16 ≤ to ∧ w < 16 * hr + s
def isUV (h : Hl) (m : Nat) (o : Option Nat) (U V : Int64) : Prop := ∀ b, o = some b → b < 192 ∧ U = lN (upN h m (b % 16) (b / 16) 0) ∧ V = lN (10 ^ exN h m (b % 16) 0)
theorem PW_le (h : Hl) (v : HV h) (m a b : Nat) : (PW h m a ≤ PW h m b) ↔ upN h m (a % 16) (a / 16) 0 * 10 ^ exN h m (b % 16) 0 ≤ upN h m (b % 16) (b / 16) 0 * 10 ^ exN h m (a % 16) 0 := by
  unfold PW
  rw [passN_eq h v, passN_eq h v]
  exact frac_le (N := 10 ^ 9) (by decide) (nine h v m _ 0) (nine h v m _ 0)
theorem m_how1 (v : HV h) (R : RR h r) (M : HM s r) {m q fr to hr : Nat} (hm : m < 16) (hq : q < 2 ^ 31) (hh : hr < 12) (hf : fr ≤ hr) (ht : hr ≤ to) : ∀ d n z o U V (t : Lt), z + d = 16 → d < n → isUV h m o U V → isBest (PW h m) (SM h q fr to hr z) o → ∃ o' U' V' t', fX8_how_L83 (nI m) (nI q) s (nI hr) n (tI o) U V (nI z) t = some (tI o', U', V', t') ∧ isUV h m o' U' V' ∧ isBest (PW h m) (SM h q fr to (hr + 1) 0) o' := by
  have h0 := v.1
  intro d
  induction d with
  | zero =>
    intro n z o U V t e hn hU hB
    cases n with
    | zero => omega
    | succ n =>
      have e : z = 16 := by omega
      subst e
      refine ⟨o, U, V, t, ?_, hU, isBest_congr hB (fun w => ?_)⟩
      · rw [fX8_how_L83, if_pos (by decide)]
      · unfold SM; omega
  | succ d ih =>
    intro n z o U V t e hn hU hB
    cases n with
    | zero => omega
    | succ n =>
      have hz : z < 16 := by omega
      have hcl := hcn_le h z
      obtain ⟨t1, e1, e2, e3⟩ := m_layOdds v R M t (m := m) (thr := z) (hr := hr) (gone := 0) hm hz hh (by decide)
      have e1 : fX8_layOdds s t (nI m) (nI z) (nI hr) 0 = some t1 := e1
      have w1 : (16 * hr + z) % 16 = z := by omega
      have w2 : (16 * hr + z) / 16 = hr := by omega
      rw [fX8_how_L83, e1, q_b1s, m_hearers v R M z, q_b1s]
      rw [show (16 : Int32) = nI 16 from rfl, show (1 : Int32) = nI 1 from rfl, iMul, iAdd, iAdd, if_neg (by rw [iLe (show 16 < 2 ^ 31 by decide) (show z < 2 ^ 31 by omega)]; omega)]
      have stay : (∀ x, SM h q fr to hr (z + 1) x → ¬ x = 16 * hr + z) → isBest (PW h m) (SM h q fr to hr (z + 1)) o := by
        intro k
        refine isBest_congr hB (fun x => ?_)
        constructor
        · intro y
          have := k x y
          unfold SM at y ⊢
          exact ⟨y.1, y.2.1, y.2.2.1, by omega⟩
        · intro y
          unfold SM at y ⊢
          exact ⟨y.1, y.2.1, y.2.2.1, by omega⟩
      by_cases c : hcn h z < q
      · rw [if_pos (by rw [iLt (show hcn h z < 2 ^ 31 by omega) hq]; exact c), q_b1s, if_pos rfl, q_b1s, if_pos rfl, q_b1s, if_pos rfl, q_b1s]
        refine ih n (z + 1) o U V t1 (by omega) (by omega) hU (stay (fun x y k => ?_))
        subst k
        have := y.1
        rw [w1] at this
        omega
      · rw [if_neg (by rw [iLt (show hcn h z < 2 ^ 31 by omega) hq]; exact c)]
        have add : ∀ x, SM h q fr to hr (z + 1) x ↔ SM h q fr to hr z x ∨ x = 16 * hr + z := by
          intro x
          unfold SM
          constructor
          · intro y
            by_cases k : x = 16 * hr + z
            · exact Or.inr k
            · exact Or.inl ⟨y.1, y.2.1, y.2.2.1, by omega⟩
          · intro y
            rcases y with y | y
            · exact ⟨y.1, y.2.1, y.2.2.1, by omega⟩
            · subst y
              rw [w1, w2]
              exact ⟨by omega, by omega, by omega, by omega⟩
        have hB' := bestM_ok hB add (fun x y => y.2.2.2)
        have hU' : isUV h m (some (16 * hr + z)) (t1 21) (t1 22) := by
          intro b k
          cases k
          rw [w1, w2]
          exact ⟨by omega, e2, e3⟩
        cases o with
        | none =>
          rw [if_pos (show tI none = -1000000 from rfl), q_b1s, if_neg (show ¬ (nI 1) = 0 by decide), q_b1s, if_neg (show ¬ (nI 1) = 0 by decide), q_b1s, if_neg (show ¬ (nI 1) = 0 by decide), q_b1s]
          exact ih n (z + 1) (some (16 * hr + z)) _ _ t1 (by omega) (by omega) hU' hB'
        | some b =>
          obtain ⟨hb, rfl, rfl⟩ := hU b rfl
          have l1 : upN h m z hr 0 * 10 ^ exN h m (b % 16) 0 < 2 ^ 63 := Nat.lt_of_le_of_lt (Nat.mul_le_mul (Nat.le_trans (upN_le h m z hr 0) (ten_le (exN_le h v m z 0))) (ten_le (exN_le h v m (b % 16) 0))) (by decide)
          have l2 : upN h m (b % 16) (b / 16) 0 * 10 ^ exN h m z 0 < 2 ^ 63 := Nat.lt_of_le_of_lt (Nat.mul_le_mul (Nat.le_trans (upN_le h m (b % 16) (b / 16) 0) (ten_le (exN_le h v m (b % 16) 0))) (ten_le (exN_le h v m z 0))) (by decide)
          have hcond : (lg_cmp (t1 21 * lN (10 ^ exN h m (b % 16) 0)) (lN (upN h m (b % 16) (b / 16) 0) * t1 22) ≤ 0) = ¬ PW h m b < PW h m (16 * hr + z) := by
            rw [cLe, e2, e3, lN_mul, lN_mul, ← Int64.not_lt, pk_lLT l2 l1]
            have := PW_le h v m (16 * hr + z) b
            rw [w1, w2] at this
            apply propext
            omega
          rw [if_neg (show ¬ tI (some b) = -1000000 from nI_neNONE (by omega))]
          by_cases c2 : PW h m b < PW h m (16 * hr + z)
          · rw [if_neg (by rw [hcond]; exact fun k => k c2), q_b1s, if_neg (show ¬ (nI 1) = 0 by decide), q_b1s, if_neg (show ¬ (nI 1) = 0 by decide), q_b1s, if_neg (show ¬ (nI 1) = 0 by decide), q_b1s]
            rw [bestM_some, if_pos c2] at hB'
            exact ih n (z + 1) (some (16 * hr + z)) _ _ t1 (by omega) (by omega) hU' hB'
          · rw [if_pos (by rw [hcond]; exact c2), q_b1s, if_pos rfl, q_b1s, if_pos rfl, q_b1s, if_pos rfl, q_b1s]
            rw [bestM_some, if_neg c2] at hB'
            exact ih n (z + 1) (some b) _ _ t1 (by omega) (by omega) hU hB'
theorem m_how2 (v : HV h) (R : RR h r) (M : HM s r) {m q fr to : Nat} (hm : m < 16) (hq : q < 2 ^ 31) (ht : to < 12) : ∀ d n hr o U V (t : Lt), hr + d = to + 1 → fr ≤ hr → d < n → isUV h m o U V → isBest (PW h m) (SM h q fr to hr 0) o → ∃ o' t', fX8_how_L73 (nI m) (nI q) (nI to) s n (tI o) U V (nI hr) t = some (tI o', t') ∧ isBest (PW h m) (SM h q fr to (to + 1) 0) o' := by
  intro d
  induction d with
  | zero =>
    intro n hr o U V t e hf hn hU hB
    cases n with
    | zero => omega
    | succ n =>
      have e : hr = to + 1 := by omega
      subst e
      refine ⟨o, t, ?_, hB⟩
      rw [fX8_how_L73, if_pos (by rw [iLt (show to < 2 ^ 31 by omega) (show to + 1 < 2 ^ 31 by omega)]; omega)]
  | succ d ih =>
    intro n hr o U V t e hf hn hU hB
    cases n with
    | zero => omega
    | succ n =>
      obtain ⟨o1, U1, V1, t1, e1, e2, e3⟩ := m_how1 v R M (fr := fr) (to := to) hm hq (show hr < 12 by omega) hf (by omega) 16 5000 0 o U V t (by omega) (by omega) hU hB
      have e1 : fX8_how_L83 (nI m) (nI q) s (nI hr) 5000 (tI o) U V 0 t = some (tI o1, U1, V1, t1) := e1
      rw [fX8_how_L73, if_neg (by rw [iLt (show to < 2 ^ 31 by omega) (show hr < 2 ^ 31 by omega)]; omega), e1, q_b4s, show (1 : Int32) = nI 1 from rfl, iAdd]
      exact ih n (hr + 1) o1 U1 V1 t1 (by omega) (by omega) (by omega) e2 e3
end M81
section OPS
variable {ro ta ac bo i6 i7 st sp x m : St}
theorem how_eq (h : Hl) (v : HV h) {m q fr to : Nat} {a b : Option Nat} (ha : isBest (PW h m) (SC h q fr to (2 ^ h 11 0) fr) a) (hb : isBest (PW h m) (SM h q fr to (to + 1) 0) b) : a = b := by
  have hp := pw4 v.2.1
  have hpos : 0 < 2 ^ h 11 0 := Nat.pow_pos (by decide)
  refine isBest_uni ha (isBest_sub hb (fun x y => ?_) (fun x y n => ?_))
  · unfold SC at y; unfold SM
    have h1 := y.2.2.1
    exact ⟨y.1, y.2.1, h1, by omega⟩
  · unfold SM at y
    have h1 := y.2.2.1
    have ge : 2 ^ h 11 0 ≤ x % 16 := by
      rcases Nat.lt_or_ge (x % 16) (2 ^ h 11 0) with k | k
      · exact absurd ⟨y.1, y.2.1, h1, Or.inl k⟩ n
      · exact k
    have lt : x % 16 % 2 ^ h 11 0 < 2 ^ h 11 0 := Nat.mod_lt _ hpos
    have w1 : (16 * (x / 16) + x % 16 % 2 ^ h 11 0) % 16 = x % 16 % 2 ^ h 11 0 := by omega
    have w2 : (16 * (x / 16) + x % 16 % 2 ^ h 11 0) / 16 = x / 16 := by omega
    refine ⟨16 * (x / 16) + x % 16 % 2 ^ h 11 0, ?_, ?_, by omega⟩
    · unfold SC
      rw [w1, w2, hcn_mod]
      exact ⟨y.1, y.2.1, h1, Or.inl lt⟩
    · unfold PW
      rw [w1, w2]
      exact PW_mod h m (x / 16) (x % 16)
theorem how_sim (R : RelC ro ta ac bo i6 i7 st sp x m) (t : Lt) (p q k w : Int32) : ∃ (v : Int64) (m' : St) (t' : Lt), fX7_how x st p q k w = some v ∧ fX8_how m t p q k w = some (v, m', t') ∧ RelC ro ta ac bo i6 i7 st sp x m' := by
  have R0 := Rel0 R
  obtain ⟨h, h6, h7, h9, rfl, rfl, rfl, rfl, ⟨hv, r, hR, hM⟩, hrow, htape, hacts, himg, htr, hx⟩ := R
  have hM0 : HM (u1 m 0 0) r := hM
  unfold fX7_how fX8_how
  rw [q_lts, hx.1, show (u1 m 0 0) 7 0 = m 7 0 from rfl, ck_in2]
  by_cases c0 : m 7 0 = 0
  · exact ⟨_, _, _, by rw [if_pos c0], by rw [if_pos c0], R0⟩
  rw [if_neg c0, if_neg c0, c_isMatter, m_isMatter, q_b1s, q_b1s]
  rw [show (0 : Int32).toInt = 0 from rfl, show (5 : Int32).toInt = 5 from rfl]
  simp only [b01]
  by_cases c1 : inR p 1 15 = true
  · have k1 : ¬ ¬ inR p 1 15 = true := fun n => n c1
    rw [if_neg k1, if_neg k1, inp_ok q 0 5 0 5 rfl rfl, q_b1s]
    simp only [b01]
    by_cases c2 : inR q 0 5 = true
    · have k2 : ¬ ¬ inR q 0 5 = true := fun n => n c2
      rw [if_pos c2, if_neg k2, c_isHour, m_isHour, q_b1s, q_b1s]
      simp only [b01]
      by_cases c3 : inR k 0 11 = true
      · have k3 : ¬ ¬ inR k 0 11 = true := fun n => n c3
        rw [if_neg k3, if_neg k3, c_isHour, m_isHour, q_b1s, q_b1s]
        simp only [b01]
        by_cases c4 : inR w 0 11 = true
        · have k4 : ¬ ¬ inR w 0 11 = true := fun n => n c4
          rw [if_neg k4, if_neg k4]
          clear k1 k2 k3 k4
          obtain ⟨a, a1, a2, a3, rfl⟩ := inR_of (by decide) (by decide) c1
          obtain ⟨b, b1, b2, b3, rfl⟩ := inR_of (by decide) (by decide) c2
          obtain ⟨d, d1, d2, d3, rfl⟩ := inR_of (by decide) (by decide) c3
          obtain ⟨z, z1, z2, z3, rfl⟩ := inR_of (by decide) (by decide) c4
          by_cases c5 : nI d ≤ nI z
          · rw [if_pos c5, if_pos c5]
            rw [iLe d3 z3] at c5
            obtain ⟨o1, e1, f1⟩ := way_ok h hv (m := a) (q := b) (fr := d) (to := z) (by omega) b3 (by omega) c5
            obtain ⟨o2, t', e2, f2⟩ := m_how2 hv hR hM0 (m := a) (q := b) (fr := d) (to := z) (by omega) b3 (by omega) (z + 1 - d) 5000 d none 0 1 t (by omega) (Nat.le_refl _) (by omega) (fun b k => by cases k) (fun w k => by unfold SM at k; omega)
            have e2 : fX8_how_L73 (nI a) (nI b) (nI z) (u1 m 0 0) 5000 (-1000000) 0 1 (nI d) t = some (tI o2, t') := e2
            rw [e1, q_b1s, e2, q_b2s, how_eq h hv f1 f2]
            exact ⟨_, _, _, rfl, rfl, R0⟩
          · exact ⟨_, _, _, by rw [if_neg c5], by rw [if_neg c5], R0⟩
        · exact ⟨_, _, _, by rw [if_pos c4], by rw [if_pos c4], R0⟩
      · exact ⟨_, _, _, by rw [if_pos c3], by rw [if_pos c3], R0⟩
    · exact ⟨_, _, _, by rw [if_neg c2], by rw [if_pos c2], R0⟩
  · exact ⟨_, _, _, by rw [if_pos c1], by rw [if_pos c1], R0⟩
end OPS
