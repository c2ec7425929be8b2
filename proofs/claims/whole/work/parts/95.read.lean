/-! reading winds, graves, horns -/
def PH (hp : Hl) (g : Nat → Int32) (W : Nat) : Prop := (hp 10 0 ≤ 5 ∧ hp 11 0 ≤ 4 ∧ hp 12 0 ≤ 4 ∧ (∀ j, hp 13 j = 0)) ∧ (g 0 = nI (hp 10 0) ∧ g 1 = nI (hp 11 0) ∧ g 2 = nI (hp 12 0)) ∧ (∀ j, j < W → g (3 + j) = nI (hp 0 j) ∧ hp 0 j ≤ 3) ∧ (∀ k, k < hp 10 0 → g (15 + 4 * k) = nI (hp 1 k) ∧ g (15 + 4 * k + 1) = nI (hp 2 k) ∧ g (15 + 4 * k + 2) = nI (hp 3 k) ∧ g (15 + 4 * k + 3) = nI (hp 4 k) ∧ hp 1 k ≤ 30 ∧ hp 2 k ≤ 9 ∧ hp 3 k ≤ 9 ∧ hp 4 k ≤ 15) ∧ (∀ k, k < hp 11 0 → g (35 + 3 * k) = nI (hp 5 k) ∧ g (35 + 3 * k + 1) = nI (hp 6 k) ∧ hp 5 k ≤ 30 ∧ hp 6 k ≤ 40) ∧ (∀ k, k < 4 → g (35 + 3 * k + 2) = 0) ∧ (∀ k, k < hp 12 0 → g (47 + 3 * k) = nI (hp 7 k) ∧ g (47 + 3 * k + 1) = nI (hp 8 k) ∧ g (47 + 3 * k + 2) = nI (hp 9 k) ∧ 1 ≤ hp 7 k ∧ hp 7 k ≤ 5 ∧ hp 8 k ≤ 30 ∧ hp 9 k ≤ 9)
theorem u2_at (s : St) (k : Nat) (f : Nat → Int32) : u2 s k f k = f := by unfold u2; rw [Nat.beq_refl]; rfl
theorem u2_u2 (s : St) (k : Nat) (f g : Nat → Int32) : u2 (u2 s k f) k g = u2 s k g := by
  funext j
  by_cases c : j = k
  · rw [c, u2_at, u2_at]
  · rw [u2_ne c, u2_ne c, u2_ne c]
theorem PH_w {hp : Hl} {g : Nat → Int32} {l z : Nat} (P : PH hp g l) (hl : l < 12) (hz : z ≤ 3) : PH (hA hp 0 l z) (upd g (3 + l) (nI z)) (l + 1) := by
  obtain ⟨⟨a1, a2, a3, a4⟩, ⟨b1, b2, b3⟩, c, d, e, e2, f⟩ := P
  refine ⟨⟨a1, a2, a3, a4⟩, ⟨(upd_diff (by omega)).trans b1, (upd_diff (by omega)).trans b2, (upd_diff (by omega)).trans b3⟩, fun j hj => ?_, fun k hk => ?_, fun k hk => ?_, fun k hk => (upd_diff (by omega)).trans (e2 k hk), fun k hk => ?_⟩
  · show upd g (3 + l) (nI z) (3 + j) = nI (if j = l then z else hp 0 j) ∧ (if j = l then z else hp 0 j) ≤ 3
    by_cases q : j = l
    · rw [if_pos q, q, upd_same]; exact ⟨rfl, hz⟩
    · rw [if_neg q, upd_diff (by omega)]; exact c j (by omega)
  · have hk : k < hp 10 0 := hk
    rw [upd_diff (by omega), upd_diff (by omega), upd_diff (by omega), upd_diff (by omega)]; exact d k hk
  · have hk : k < hp 11 0 := hk
    rw [upd_diff (by omega), upd_diff (by omega)]; exact e k hk
  · have hk : k < hp 12 0 := hk
    rw [upd_diff (by omega), upd_diff (by omega), upd_diff (by omega)]; exact f k hk
theorem PH_g {hp : Hl} {g : Nat → Int32} {k z1 z2 z3 z4 : Nat} (P : PH hp g 12) (hk : hp 10 0 = k) (h5 : k < 5) (y1 : z1 ≤ 30) (y2 : z2 ≤ 9) (y3 : z3 ≤ 9) (y4 : z4 ≤ 15) : PH (h1 (hA (hA (hA (hA hp 1 k z1) 2 k z2) 3 k z3) 4 k z4) 10 (k + 1)) (upd (upd (upd (upd (upd g (15 + 4 * k) (nI z1)) (15 + 4 * k + 1) (nI z2)) (15 + 4 * k + 2) (nI z3)) (15 + 4 * k + 3) (nI z4)) 0 (nI (k + 1))) 12 := by
  obtain ⟨⟨a1, a2, a3, a4⟩, ⟨b1, b2, b3⟩, c, d, e, e2, f⟩ := P
  have ne : ∀ x, ¬ x = 0 → (x < 15 + 4 * k ∨ 15 + 4 * k + 3 < x) → upd (upd (upd (upd (upd g (15 + 4 * k) (nI z1)) (15 + 4 * k + 1) (nI z2)) (15 + 4 * k + 2) (nI z3)) (15 + 4 * k + 3) (nI z4)) 0 (nI (k + 1)) x = g x := fun x x0 x1 => by
    rw [upd_diff x0, upd_diff (by omega), upd_diff (by omega), upd_diff (by omega), upd_diff (by omega)]
  refine ⟨⟨show k + 1 ≤ 5 by omega, a2, a3, a4⟩, ⟨upd_same, (ne 1 (by decide) (by omega)).trans b2, (ne 2 (by decide) (by omega)).trans b3⟩, fun j hj => ?_, fun x hx => ?_, fun x hx => ?_, fun x hx => (ne _ (by omega) (by omega)).trans (e2 x hx), fun x hx => ?_⟩
  · rw [ne _ (by omega) (by omega)]; exact c j hj
  · have hx : x < k + 1 := hx
    show _ = nI (if x = k then z1 else hp 1 x) ∧ _ = nI (if x = k then z2 else hp 2 x) ∧ _ = nI (if x = k then z3 else hp 3 x) ∧ _ = nI (if x = k then z4 else hp 4 x) ∧ (if x = k then z1 else hp 1 x) ≤ 30 ∧ (if x = k then z2 else hp 2 x) ≤ 9 ∧ (if x = k then z3 else hp 3 x) ≤ 9 ∧ (if x = k then z4 else hp 4 x) ≤ 15
    by_cases q : x = k
    · subst q
      simp only [if_true]
      refine ⟨?_, ?_, ?_, ?_, y1, y2, y3, y4⟩
      · rw [upd_diff (by omega), upd_diff (by omega), upd_diff (by omega), upd_diff (by omega), upd_same]
      · rw [upd_diff (by omega), upd_diff (by omega), upd_diff (by omega), upd_same]
      · rw [upd_diff (by omega), upd_diff (by omega), upd_same]
      · rw [upd_diff (by omega), upd_same]
    · simp only [if_neg q]
      rw [ne _ (by omega) (by omega), ne _ (by omega) (by omega), ne _ (by omega) (by omega), ne _ (by omega) (by omega)]
      exact d x (by omega)
  · have hx : x < hp 11 0 := hx
    rw [ne _ (by omega) (by omega), ne _ (by omega) (by omega)]; exact e x hx
  · have hx : x < hp 12 0 := hx
    rw [ne _ (by omega) (by omega), ne _ (by omega) (by omega), ne _ (by omega) (by omega)]; exact f x hx
theorem PH_h {hp : Hl} {g : Nat → Int32} {k z1 z2 : Nat} (P : PH hp g 12) (hk : hp 11 0 = k) (h5 : k < 4) (y1 : z1 ≤ 30) (y2 : z2 ≤ 40) : PH (h1 (hA (hA hp 5 k z1) 6 k z2) 11 (k + 1)) (upd (upd (upd g (35 + 3 * k) (nI z1)) (35 + 3 * k + 1) (nI z2)) 1 (nI (k + 1))) 12 := by
  obtain ⟨⟨a1, a2, a3, a4⟩, ⟨b1, b2, b3⟩, c, d, e, e2, f⟩ := P
  have ne : ∀ x, ¬ x = 1 → (x < 35 + 3 * k ∨ 35 + 3 * k + 1 < x) → upd (upd (upd g (35 + 3 * k) (nI z1)) (35 + 3 * k + 1) (nI z2)) 1 (nI (k + 1)) x = g x := fun x x0 x1 => by
    rw [upd_diff x0, upd_diff (by omega), upd_diff (by omega)]
  refine ⟨⟨a1, show k + 1 ≤ 4 by omega, a3, a4⟩, ⟨(ne 0 (by decide) (by omega)).trans b1, upd_same, (ne 2 (by decide) (by omega)).trans b3⟩, fun j hj => ?_, fun x hx => ?_, fun x hx => ?_, fun x hx => (ne _ (by omega) (by omega)).trans (e2 x hx), fun x hx => ?_⟩
  · rw [ne _ (by omega) (by omega)]; exact c j hj
  · have hx : x < hp 10 0 := hx
    rw [ne _ (by omega) (by omega), ne _ (by omega) (by omega), ne _ (by omega) (by omega), ne _ (by omega) (by omega)]; exact d x hx
  · have hx : x < k + 1 := hx
    show _ = nI (if x = k then z1 else hp 5 x) ∧ _ = nI (if x = k then z2 else hp 6 x) ∧ (if x = k then z1 else hp 5 x) ≤ 30 ∧ (if x = k then z2 else hp 6 x) ≤ 40
    by_cases q : x = k
    · subst q
      simp only [if_true]
      refine ⟨?_, ?_, y1, y2⟩
      · rw [upd_diff (by omega), upd_diff (by omega), upd_same]
      · rw [upd_diff (by omega), upd_same]
    · simp only [if_neg q]
      rw [ne _ (by omega) (by omega), ne _ (by omega) (by omega)]
      exact e x (by omega)
  · have hx : x < hp 12 0 := hx
    rw [ne _ (by omega) (by omega), ne _ (by omega) (by omega), ne _ (by omega) (by omega)]; exact f x hx
theorem PH_t {hp : Hl} {g : Nat → Int32} {k z1 z2 z3 : Nat} (P : PH hp g 12) (hk : hp 12 0 = k) (h5 : k < 4) (y0 : 1 ≤ z1) (y1 : z1 ≤ 5) (y2 : z2 ≤ 30) (y3 : z3 ≤ 9) : PH (h1 (hA (hA (hA hp 7 k z1) 8 k z2) 9 k z3) 12 (k + 1)) (upd (upd (upd (upd g (47 + 3 * k) (nI z1)) (47 + 3 * k + 1) (nI z2)) (47 + 3 * k + 2) (nI z3)) 2 (nI (k + 1))) 12 := by
  obtain ⟨⟨a1, a2, a3, a4⟩, ⟨b1, b2, b3⟩, c, d, e, e2, f⟩ := P
  have ne : ∀ x, ¬ x = 2 → (x < 47 + 3 * k ∨ 47 + 3 * k + 2 < x) → upd (upd (upd (upd g (47 + 3 * k) (nI z1)) (47 + 3 * k + 1) (nI z2)) (47 + 3 * k + 2) (nI z3)) 2 (nI (k + 1)) x = g x := fun x x0 x1 => by
    rw [upd_diff x0, upd_diff (by omega), upd_diff (by omega), upd_diff (by omega)]
  refine ⟨⟨a1, a2, show k + 1 ≤ 4 by omega, a4⟩, ⟨(ne 0 (by decide) (by omega)).trans b1, (ne 1 (by decide) (by omega)).trans b2, upd_same⟩, fun j hj => ?_, fun x hx => ?_, fun x hx => ?_, fun x hx => (ne _ (by omega) (by omega)).trans (e2 x hx), fun x hx => ?_⟩
  · rw [ne _ (by omega) (by omega)]; exact c j hj
  · have hx : x < hp 10 0 := hx
    rw [ne _ (by omega) (by omega), ne _ (by omega) (by omega), ne _ (by omega) (by omega), ne _ (by omega) (by omega)]; exact d x hx
  · have hx : x < hp 11 0 := hx
    rw [ne _ (by omega) (by omega), ne _ (by omega) (by omega)]; exact e x hx
  · have hx : x < k + 1 := hx
    show _ = nI (if x = k then z1 else hp 7 x) ∧ _ = nI (if x = k then z2 else hp 8 x) ∧ _ = nI (if x = k then z3 else hp 9 x) ∧ 1 ≤ (if x = k then z1 else hp 7 x) ∧ (if x = k then z1 else hp 7 x) ≤ 5 ∧ (if x = k then z2 else hp 8 x) ≤ 30 ∧ (if x = k then z3 else hp 9 x) ≤ 9
    by_cases q : x = k
    · subst q
      simp only [if_true]
      refine ⟨?_, ?_, ?_, y0, y1, y2, y3⟩
      · rw [upd_diff (by omega), upd_diff (by omega), upd_diff (by omega), upd_same]
      · rw [upd_diff (by omega), upd_diff (by omega), upd_same]
      · rw [upd_diff (by omega), upd_same]
    · simp only [if_neg q]
      rw [ne _ (by omega) (by omega), ne _ (by omega) (by omega), ne _ (by omega) (by omega)]
      exact f x (by omega)
section R95
variable {m0 : St} {b : Nat → Nat} {u p q s : Nat} {a m m1 rd : St} {hp : Hl}
theorem bd_L22 {f pl : Nat} : ∀ d n l (m : St), l + d = 12 → d < n → BD m0 b u f pl a m → ∃ m', fX8_readWinds_L22 n (nI l) m = some m' ∧ BD m0 b u f pl a m' := by
  intro d
  induction d with
  | zero =>
    intro n l m e hn B
    cases n with
    | zero => omega
    | succ n =>
      have e : l = 12 := by omega
      subst e
      exact ⟨m, by rw [fX8_readWinds_L22, if_pos (by decide)], B⟩
  | succ d ih =>
    intro n l m e hn B
    cases n with
    | zero => omega
    | succ n =>
      obtain ⟨m', f1, f2⟩ := ih n (l + 1) (uA m 6 (nI (3 + l)) 0) (by omega) (by omega) (bd_6 B _)
      refine ⟨m', ?_, f2⟩
      rw [fX8_readWinds_L22, if_neg (by rw [show (12 : Int32) = nI 12 from rfl, iLe (by decide) (by omega)]; omega), bd_num B, q_b2s, show (3 : Int32) = nI 3 from rfl, iAdd, if_pos (by rw [iIn (by omega)]; omega), q_lts, nI_1]
      exact f1
theorem windsL : ∀ d n n' l (p q s : Nat) (rd a m : St) (hp : Hl), l + d = 12 → d < n → d < n' → GD m0 b u p q s a m → PH hp (m 6) l → (∃ (p' q' s' : Nat) (rd' a' m' : St) (hp' : Hl), fX4_readWinds_L27 n (nI l) rd a (cst hp) = some (1, rd', a', cst hp') ∧ (q_b1 (fX8_readWinds_L22 n' (nI l) m) fun z => fX8_mustEnd z) = some m' ∧ GD m0 b u p' q' s' a' m' ∧ PH hp' (m' 6) 12 ∧ hp' 10 0 = hp 10 0 ∧ hp' 11 0 = hp 11 0 ∧ hp' 12 0 = hp 12 0) ∨ (∃ (f pl : Nat) (rd' a' m' : St) (hp' : Hl), fX4_readWinds_L27 n (nI l) rd a (cst hp) = some (0, rd', a', cst hp') ∧ (q_b1 (fX8_readWinds_L22 n' (nI l) m) fun z => fX8_mustEnd z) = some m' ∧ RF f pl rd' ∧ BD m0 b u f pl a' m') := by
  intro d
  induction d with
  | zero =>
    intro n n' l p q s rd a m hp e hn hn' G P
    cases n with
    | zero => omega
    | succ n =>
      cases n' with
      | zero => omega
      | succ n' =>
        have e : l = 12 := by omega
        subst e
        rw [fX4_readWinds_L27, fX8_readWinds_L22, if_pos (by decide), if_pos (by decide), q_b1s]
        rcases takeS G rd with ⟨p', q', s', a', m', x1, x2, x3, x4⟩ | ⟨f, pl, rd', m', x1, x2, x3, x4⟩
        · refine Or.inl ⟨p', q', s', rd, a', m', hp, ?_, x2, x3, by rw [x4]; exact P, rfl, rfl, rfl⟩
          rw [x1, q_b3s, if_pos (Or.inr rfl)]
        · refine Or.inr ⟨f, pl, rd', a, m', hp, ?_, x3, x2, x4⟩
          rw [x1, q_b3s, if_pos (Or.inl rfl)]
  | succ d ih =>
    intro n n' l p q s rd a m hp e hn hn' G P
    cases n with
    | zero => omega
    | succ n =>
      cases n' with
      | zero => omega
      | succ n' =>
        have nle : ¬ (12 : Int32) ≤ nI l := by rw [show (12 : Int32) = nI 12 from rfl, iLe (by decide) (by omega)]; omega
        rw [fX4_readWinds_L27, fX8_readWinds_L22, if_neg nle, if_neg nle]
        rcases takeN G rd (lo := 0) (hi := 3) (by decide) (by decide) with ⟨z, p', q', s', rd', a', m', z0, z1, x1, x2, x3, x4, x5⟩ | ⟨f, pl, r, rd', m', x1, x2, x3, x4⟩
        · have x1 : fX4_takeNumber rd a 0 3 = some (1, rd', a') := x1
          have x3 : fX8_number m 0 3 = some (nI z, m') := x3
          have P' : PH (hA hp 0 l z) ((uA m' 6 (nI (3 + l)) (nI z)) 6) (l + 1) := by
            have e6 : (uA m' 6 (nI (3 + l)) (nI z)) 6 = upd (m 6) (3 + l) (nI z) := by
              show upd (m' 6) (nI (3 + l)).toNatClampNeg (nI z) = _
              rw [iCl (by omega), x5]
            rw [e6]
            exact PH_w P (by omega) z1
          rw [x1, q_b3s, if_neg (show ¬ (1 : Int32) = 0 by decide), if_pos (by rw [iIn (by omega)]; omega), q_lts, x2, uA_cst _ _ _ _ (by omega), nI_1, x3, q_b2s, show (3 : Int32) = nI 3 from rfl, iAdd, if_pos (by rw [iIn (by omega)]; omega), q_lts]
          exact ih n n' (l + 1) p' q' s' rd' a' (uA m' 6 (nI (3 + l)) (nI z)) (hA hp 0 l z) (by omega) (by omega) (by omega) (gd_6 x4 _) P'
        · have x1 : fX4_takeNumber rd a 0 3 = some (0, rd', a) := x1
          have x3 : fX8_number m 0 3 = some (r, m') := x3
          obtain ⟨m2, f1, f2⟩ := bd_L22 d n' (l + 1) (uA m' 6 (nI (3 + l)) r) (by omega) (by omega) (bd_6 x4 _)
          refine Or.inr ⟨f, pl, rd', a, m2, hp, ?_, ?_, x2, f2⟩
          · rw [x1, q_b3s, if_pos rfl]
          · rw [x3, q_b2s, show (3 : Int32) = nI 3 from rfl, iAdd, if_pos (by rw [iIn (by omega)]; omega), q_lts, nI_1, f1, q_b1s, bd_end f2]
theorem winds_ok (G : GD m0 b u p q s a m) (P : PH hp (m 6) 0) (rd : St) : (∃ (p' q' s' : Nat) (rd' a' m' : St) (hp' : Hl), fX4_readWinds rd a (cst hp) = some (1, rd', a', cst hp') ∧ fX8_readWinds m = some m' ∧ GD m0 b u p' q' s' a' m' ∧ PH hp' (m' 6) 12 ∧ hp' 10 0 = hp 10 0 ∧ hp' 11 0 = hp 11 0 ∧ hp' 12 0 = hp 12 0) ∨ (∃ (f pl : Nat) (rd' a' m' : St) (hp' : Hl), fX4_readWinds rd a (cst hp) = some (0, rd', a', cst hp') ∧ fX8_readWinds m = some m' ∧ RF f pl rd' ∧ BD m0 b u f pl a' m') := by
  have T := G.1
  unfold fX4_readWinds fX8_readWinds
  rw [word_ok T (by decide), q_b1s, name_ok T G.2.1, q_b1s, kk_0]
  simp only [b01, name_eq T (show 0 < 9 by decide)]
  by_cases c : WM b p q s 0 = true
  · obtain ⟨p', q', s', a', m', y1, y2, y3, y4⟩ := gd_next G
    rw [if_neg (fun n => n c), if_pos c, q_b1s, y1, q_b1s, must1 G y2, q_b1s]
    rcases windsL 12 5000 5000 0 p' q' s' rd a' m' hp (by omega) (by omega) (by omega) y3 (by rw [y4]; exact P) with ⟨p2, q2, s2, rd2, a2, m2, hp2, x1, x2, x3⟩ | ⟨f, pl, rd2, a2, m2, hp2, x1, x2, x3⟩
    · refine Or.inl ⟨p2, q2, s2, rd2, a2, m2, hp2, x1, ?_, x3⟩
      revert x2
      show (q_b1 (fX8_readWinds_L22 5000 0 m') fun z => fX8_mustEnd z) = some m2 → (q_b1 (fX8_readWinds_L22 5000 0 m') fun z => q_b1 (fX8_mustEnd z) fun sc17 => some sc17) = some m2
      intro x2
      cases y : fX8_readWinds_L22 5000 0 m' with
      | none => rw [y] at x2; cases x2
      | some z => rw [y, q_b1s] at x2; rw [q_b1s, x2, q_b1s]
    · refine Or.inr ⟨f, pl, rd2, a2, m2, hp2, x1, ?_, x3⟩
      revert x2
      show (q_b1 (fX8_readWinds_L22 5000 0 m') fun z => fX8_mustEnd z) = some m2 → (q_b1 (fX8_readWinds_L22 5000 0 m') fun z => q_b1 (fX8_mustEnd z) fun sc17 => some sc17) = some m2
      intro x2
      cases y : fX8_readWinds_L22 5000 0 m' with
      | none => rw [y] at x2; cases x2
      | some z => rw [y, q_b1s] at x2; rw [q_b1s, x2, q_b1s]
  · obtain ⟨m', y1, y2, y3⟩ := bad_ok G (f := 1) (by decide) (by decide)
    have y1 : fX8_bad m 1 = some m' := y1
    obtain ⟨rd', x1, x2⟩ := refuse_ok T rd 1
    have x1 : fX4_refuse rd a 1 = some (0, rd') := x1
    obtain ⟨m2, f1, f2⟩ := bd_L22 12 5000 0 m' (by omega) (by omega) y2
    have f1 : fX8_readWinds_L22 5000 0 m' = some m2 := f1
    refine Or.inr ⟨1, p, rd', a, m2, hp, ?_, ?_, x2, f2⟩
    · rw [if_pos c, x1, q_b2s, if_pos (Or.inl rfl)]
    · rw [if_neg c, q_b1s, must0 G y1 y2, q_b1s, f1, q_b1s, bd_end f2, q_b1s]
end R95
