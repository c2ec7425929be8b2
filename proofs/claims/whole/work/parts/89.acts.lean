/-! acts: pick, move, crack, undo -/
theorem h2_same (h : Hl) (k : Nat) (f : Nat → Nat) : h2 h k f k = f := by unfold h2; rw [Nat.beq_refl]; rfl
theorem h2_ne (h : Hl) {j k : Nat} (f : Nat → Nat) (n : ¬ j = k) : h2 h k f j = h j := by
  unfold h2
  cases q : Nat.beq j k
  · rfl
  · exact absurd (Nat.eq_of_beq_eq_true q) n
theorem h2_h2 (h : Hl) (k : Nat) (f g : Nat → Nat) : h2 (h2 h k f) k g = h2 h k g := by
  funext j
  by_cases c : j = k
  · rw [c, h2_same, h2_same]
  · rw [h2_ne _ _ c, h2_ne _ _ c, h2_ne _ _ c]
theorem h2_self (h : Hl) (k : Nat) {f : Nat → Nat} (e : f = h k) : h2 h k f = h := by
  funext j
  by_cases c : j = k
  · rw [c, h2_same, e]
  · rw [h2_ne _ _ c]
theorem addL (h : Hl) {g : Nat} {w : Int32} {nv : Nat → Nat} (hg : g < 16) (h12 : h 12 0 ≤ 4) (e : ∀ x, x < h 12 0 → g.testBit x = true → nI (h 9 x) + w = nI (nv x)) : ∀ d n i, i + d = h 12 0 → d < n → fX3_addFruit_L2 (nI g) w n (nI i) (cst (h2 h 9 (fun x => if x < i ∧ g.testBit x = true then nv x else h 9 x))) = some (cst (h2 h 9 (fun x => if x < h 12 0 ∧ g.testBit x = true then nv x else h 9 x))) := by
  intro d
  induction d with
  | zero =>
    intro n i q hn
    cases n with
    | zero => omega
    | succ n =>
      have q : i = h 12 0 := by omega
      subst q
      rw [fX3_addFruit_L2, cst_at, if_pos (by rw [h2_ne _ _ (by decide), iLe (by omega) (by omega)]; exact Nat.le_refl _)]
  | succ d ih =>
    intro n i q hn
    cases n with
    | zero => omega
    | succ n =>
      have hi : i < h 12 0 := by omega
      have IH := ih n (i + 1) (by omega) (by omega)
      have ib : inb (nI i) 4 := by rw [iIn (by omega)]; omega
      rw [fX3_addFruit_L2, cst_at, if_neg (by rw [h2_ne _ _ (by decide), iLe (by omega) (by omega)]; omega), has_ok (by omega) (by omega), q_b1s]
      by_cases c : g.testBit i = true
      · rw [if_pos c, if_neg (show ¬ nI 1 = 0 by decide), if_pos ib, if_pos ib, q_lts, iCl (by omega), cst_at, h2_same, if_neg (by omega), e i hi c, uA_cst _ _ _ _ (by omega), q_b1s, nI_1]
        have : hA (h2 h 9 (fun x => if x < i ∧ g.testBit x = true then nv x else h 9 x)) 9 i (nv i) = h2 h 9 (fun x => if x < i + 1 ∧ g.testBit x = true then nv x else h 9 x) := by
          unfold hA
          rw [h2_h2, h2_same]
          congr 1
          funext x
          by_cases cx : x = i
          · subst cx; rw [if_pos rfl, if_pos ⟨by omega, c⟩]
          · rw [if_neg cx]
            by_cases cy : x < i ∧ g.testBit x = true
            · rw [if_pos cy, if_pos ⟨by omega, cy.2⟩]
            · rw [if_neg cy, if_neg (fun z => cy ⟨by omega, z.2⟩)]
        rw [this]
        exact IH
      · rw [if_neg c, if_pos (show nI 0 = 0 from rfl), q_b1s, nI_1]
        have : (fun x => if x < i ∧ g.testBit x = true then nv x else h 9 x) = (fun x => if x < i + 1 ∧ g.testBit x = true then nv x else h 9 x) := by
          funext x
          by_cases cx : x = i
          · subst cx; rw [if_neg (fun z => c z.2), if_neg (fun z => c z.2)]
          · by_cases cy : x < i ∧ g.testBit x = true
            · rw [if_pos cy, if_pos ⟨by omega, cy.2⟩]
            · rw [if_neg cy, if_neg (fun z => cy ⟨by omega, z.2⟩)]
        rw [this]
        exact IH
theorem add_ok (h : Hl) {g : Nat} {w : Int32} {nv : Nat → Nat} (hg : g < 16) (h12 : h 12 0 ≤ 4) (e : ∀ x, x < h 12 0 → g.testBit x = true → nI (h 9 x) + w = nI (nv x)) : fX3_addFruit (cst h) (nI g) w = some (cst (h2 h 9 (fun x => if x < h 12 0 ∧ g.testBit x = true then nv x else h 9 x))) := by
  have q := addL h hg h12 e (h 12 0) 5000 0 (by omega) (by omega)
  rw [h2_self h 9 (f := fun x => if x < 0 ∧ g.testBit x = true then nv x else h 9 x) (by funext x; rw [if_neg (by omega)])] at q
  have q : fX3_addFruit_L2 (nI g) w 5000 0 (cst h) = _ := q
  unfold fX3_addFruit
  rw [q, q_b1s]
theorem keepA {a : St} {h h' : Hl} {m8 : Nat → Int32} {m9 : Int32} {r : Nat → Nat} (A : rActs a h m8 m9) (hv : HV h) (R : RR h r) (e0 e1 e2 : Nat) (u : uAct (e0, e1, e2) h' = h) (ok : okE (e0, e1, e2) h') (hc : ∀ j, h' 13 j = h' 13 0) : ∃ (n : Nat) (a' : St), n ≤ 24 ∧ m9 = nI n ∧ fX0_keep a (nI e0) (nI e1) (nI e2) = some a' ∧ ∀ m8' : Nat → Int32, (∀ k i, k < n - n / 24 → i < 59 → m8' (59 * k + i) = m8 (59 * (k + n / 24) + i)) → (∀ i, i < 59 → m8' (59 * (n - n / 24) + i) = nI (r i)) → rActs a' h' m8' (nI (n + 1 - n / 24)) := by
  obtain ⟨n, nx, hs, rs, E, a1, a2, a3, a4, a5, a6, a7, a8⟩ := A
  have ib : inb (nI nx) 24 := by rw [iIn (by omega)]; exact a2
  have e1v : (uA a 0 (nI nx) (nI e0)) 3 0 = nI nx := a3
  have e2v : (uA (uA a 0 (nI nx) (nI e0)) 1 (nI nx) (nI e1)) 3 0 = nI nx := a3
  have e3v : (uA (uA (uA a 0 (nI nx) (nI e0)) 1 (nI nx) (nI e1)) 2 (nI nx) (nI e2)) 3 0 = nI nx := a3
  have ek : fX0_keep a (nI e0) (nI e1) (nI e2) = some (u1 (u1 (uA (uA (uA a 0 (nI nx) (nI e0)) 1 (nI nx) (nI e1)) 2 (nI nx) (nI e2)) 3 (nI ((nx + 1) % 24))) 4 (nI (n + 1 - n / 24))) := by
    have hn : (if (24 : Int32) < nI n + 1 then (24 : Int32) else nI n + 1) = nI (n + 1 - n / 24) := by
      rw [nI_1, show (24 : Int32) = nI 24 from rfl]
      by_cases c : n = 24
      · subst c; rfl
      · rw [if_neg (by rw [iLt (by decide) (by omega)]; omega)]; congr 1; omega
    unfold fX0_keep
    rw [a3, if_pos ib, q_lts, e1v, if_pos ib, q_lts, e2v, if_pos ib, q_lts, e3v]
    by_cases c : nx = 23
    · rw [if_pos (by rw [c]; rfl), q_b1s, q_lts, q_lts, show (u1 (uA (uA (uA a 0 (nI nx) (nI e0)) 1 (nI nx) (nI e1)) 2 (nI nx) (nI e2)) 3 0) 4 0 = a 4 0 from rfl, a4, hn, c]
      rfl
    · rw [if_neg (by rw [show (23 : Int32) = nI 23 from rfl, iEq (by omega) (by decide)]; exact c), q_b1s, q_lts, q_lts, show (u1 (uA (uA (uA a 0 (nI nx) (nI e0)) 1 (nI nx) (nI e1)) 2 (nI nx) (nI e2)) 3 (nI nx + 1)) 4 0 = a 4 0 from rfl, a4, hn, nI_1, show (nx + 1) % 24 = nx + 1 by omega]
  refine ⟨n, _, a1, a5, ek, fun m8' f1 f2 => ?_⟩
  refine ⟨n + 1 - n / 24, (nx + 1) % 24, fun k => if k < n + 1 - n / 24 then hs (k + n / 24) else h', fun k => if k < n - n / 24 then rs (k + n / 24) else r, fun k => if k < n - n / 24 then E (k + n / 24) else (e0, e1, e2), by omega, by omega, rfl, rfl, rfl, if_neg (by omega), fun k hk j => ?_, fun k hk => ?_⟩
  · show (if k < n + 1 - n / 24 then hs (k + n / 24) else h') 13 j = (if k < n + 1 - n / 24 then hs (k + n / 24) else h') 13 0
    split
    · exact a7 _ (by omega) j
    · exact hc j
  · have a0 : ∀ y v : Nat, ∀ s : Nat → Int32, y < 24 → ¬ y = nx → upd s (nI nx).toNatClampNeg (nI v) y = s y := fun y v s _ hy => by rw [iCl (by omega), upd_diff hy]
    by_cases c : k < n - n / 24
    · obtain ⟨b1, b2, b3, b4, b5, b6, b7, b8⟩ := a8 (k + n / 24) (by omega)
      have pe : ((nx + 1) % 24 + 24 - (n + 1 - n / 24) + k) % 24 = (nx + 24 - n + (k + n / 24)) % 24 := by omega
      have pn : ¬ (nx + 24 - n + (k + n / 24)) % 24 = nx := by omega
      have pl : (nx + 24 - n + (k + n / 24)) % 24 < 24 := by omega
      have h1 : (if k < n + 1 - n / 24 then hs (k + n / 24) else h') = hs (k + n / 24) := if_pos (by omega)
      have h2' : (if k + 1 < n + 1 - n / 24 then hs (k + 1 + n / 24) else h') = hs (k + n / 24 + 1) := by rw [if_pos (by omega)]; congr 1; omega
      have h3 : (if k < n - n / 24 then rs (k + n / 24) else r) = rs (k + n / 24) := if_pos c
      have h4 : (if k < n - n / 24 then E (k + n / 24) else (e0, e1, e2)) = E (k + n / 24) := if_pos c
      show HV (if k < n + 1 - n / 24 then hs (k + n / 24) else h') ∧ RR (if k < n + 1 - n / 24 then hs (k + n / 24) else h') (if k < n - n / 24 then rs (k + n / 24) else r) ∧ (∀ i, i < 59 → m8' (59 * k + i) = nI ((if k < n - n / 24 then rs (k + n / 24) else r) i)) ∧ uAct (if k < n - n / 24 then E (k + n / 24) else (e0, e1, e2)) (if k + 1 < n + 1 - n / 24 then hs (k + 1 + n / 24) else h') = (if k < n + 1 - n / 24 then hs (k + n / 24) else h') ∧ okE (if k < n - n / 24 then E (k + n / 24) else (e0, e1, e2)) (if k + 1 < n + 1 - n / 24 then hs (k + 1 + n / 24) else h') ∧ upd (a 0) (nI nx).toNatClampNeg (nI e0) (((nx + 1) % 24 + 24 - (n + 1 - n / 24) + k) % 24) = nI (if k < n - n / 24 then E (k + n / 24) else (e0, e1, e2)).1 ∧ upd (a 1) (nI nx).toNatClampNeg (nI e1) (((nx + 1) % 24 + 24 - (n + 1 - n / 24) + k) % 24) = nI (if k < n - n / 24 then E (k + n / 24) else (e0, e1, e2)).2.1 ∧ upd (a 2) (nI nx).toNatClampNeg (nI e2) (((nx + 1) % 24 + 24 - (n + 1 - n / 24) + k) % 24) = nI (if k < n - n / 24 then E (k + n / 24) else (e0, e1, e2)).2.2
      rw [h1, h2', h3, h4, pe, a0 _ _ _ pl pn, a0 _ _ _ pl pn, a0 _ _ _ pl pn]
      exact ⟨b1, b2, fun i hi => by rw [f1 k i c hi]; exact b3 i hi, b4, b5, b6, b7, b8⟩
    · have ek : k = n - n / 24 := by omega
      have pe : ((nx + 1) % 24 + 24 - (n + 1 - n / 24) + k) % 24 = nx := by omega
      have h1 : (if k < n + 1 - n / 24 then hs (k + n / 24) else h') = h := by rw [if_pos (by omega), ← a6]; congr 1; omega
      have h2' : (if k + 1 < n + 1 - n / 24 then hs (k + 1 + n / 24) else h') = h' := if_neg (by omega)
      have h3 : (if k < n - n / 24 then rs (k + n / 24) else r) = r := if_neg c
      have h4 : (if k < n - n / 24 then E (k + n / 24) else (e0, e1, e2)) = (e0, e1, e2) := if_neg c
      show HV (if k < n + 1 - n / 24 then hs (k + n / 24) else h') ∧ RR (if k < n + 1 - n / 24 then hs (k + n / 24) else h') (if k < n - n / 24 then rs (k + n / 24) else r) ∧ (∀ i, i < 59 → m8' (59 * k + i) = nI ((if k < n - n / 24 then rs (k + n / 24) else r) i)) ∧ uAct (if k < n - n / 24 then E (k + n / 24) else (e0, e1, e2)) (if k + 1 < n + 1 - n / 24 then hs (k + 1 + n / 24) else h') = (if k < n + 1 - n / 24 then hs (k + n / 24) else h') ∧ okE (if k < n - n / 24 then E (k + n / 24) else (e0, e1, e2)) (if k + 1 < n + 1 - n / 24 then hs (k + 1 + n / 24) else h') ∧ upd (a 0) (nI nx).toNatClampNeg (nI e0) (((nx + 1) % 24 + 24 - (n + 1 - n / 24) + k) % 24) = nI (if k < n - n / 24 then E (k + n / 24) else (e0, e1, e2)).1 ∧ upd (a 1) (nI nx).toNatClampNeg (nI e1) (((nx + 1) % 24 + 24 - (n + 1 - n / 24) + k) % 24) = nI (if k < n - n / 24 then E (k + n / 24) else (e0, e1, e2)).2.1 ∧ upd (a 2) (nI nx).toNatClampNeg (nI e2) (((nx + 1) % 24 + 24 - (n + 1 - n / 24) + k) % 24) = nI (if k < n - n / 24 then E (k + n / 24) else (e0, e1, e2)).2.2
      rw [h1, h2', h3, h4, pe, iCl (by omega), upd_same, upd_same, upd_same]
      exact ⟨hv, R, fun i hi => by rw [ek]; exact f2 i hi, u, ok, rfl, rfl, rfl⟩
theorem m_kp1 {n : Nat} (hn : n < 24) : ∀ d k i (s : St), i + d = 59 → d < k → s 9 0 = nI n → ∃ s' : St, fX8_keep_L51 k (nI i) s = some s' ∧ (∀ z, ¬ z = 8 → s' z = s z) ∧ ∀ x, s' 8 x = if 59 * n + i ≤ x ∧ x < 59 * n + 59 then s 5 (x - 59 * n) else s 8 x := by
  intro d
  induction d with
  | zero =>
    intro k i s e hk h9
    cases k with
    | zero => omega
    | succ k =>
      have e : i = 59 := by omega
      subst e
      refine ⟨s, ?_, fun k _ => rfl, fun x => by rw [if_neg (by omega)]⟩
      rw [fX8_keep_L51, if_pos (by decide)]
  | succ d ih =>
    intro k i s e hk h9
    cases k with
    | zero => omega
    | succ k =>
      obtain ⟨s', f1, f2, f3⟩ := ih k (i + 1) (uA s 8 (nI (59 * n + i)) (s 5 i)) (by omega) (by omega) h9
      refine ⟨s', ?_, fun k hk => by rw [f2 k hk, uA_ne hk], fun x => ?_⟩
      · rw [fX8_keep_L51, if_neg (by rw [show (59 : Int32) = nI 59 from rfl, iLe (by decide) (by omega)]; omega), h9, show (59 : Int32) = nI 59 from rfl, iMul, iAdd, if_pos (by rw [iIn (by omega)]; omega), if_pos (by rw [iIn (by omega)]; omega), q_lts, nI_1, iCl (show i < 2 ^ 31 by omega)]
        exact f1
      · rw [f3 x, uA_ne (by decide)]
        show (if _ then _ else upd (s 8) (nI (59 * n + i)).toNatClampNeg (s 5 i) x) = _
        rw [iCl (by omega)]
        by_cases c : x = 59 * n + i
        · rw [if_neg (by omega), c, upd_same, if_pos (by omega)]; congr 1; omega
        · rw [upd_diff c]
          by_cases c2 : 59 * n + i ≤ x ∧ x < 59 * n + 59
          · rw [if_pos (by omega), if_pos c2]
          · rw [if_neg (by omega), if_neg c2]
theorem m_kp2 : ∀ d k i (s0 s : St), i + d = 1357 → d < k → (∀ x, s 8 x = if x < i then s0 8 (x + 59) else s0 8 x) → ∃ s' : St, fX8_keep_L11 k (nI i) s = some s' ∧ (∀ z, ¬ z = 8 → s' z = s z) ∧ ∀ x, s' 8 x = if x < 1357 then s0 8 (x + 59) else s0 8 x := by
  intro d
  induction d with
  | zero =>
    intro k i s0 s e hk hx
    cases k with
    | zero => omega
    | succ k =>
      have e : i = 1357 := by omega
      subst e
      refine ⟨s, ?_, fun k _ => rfl, hx⟩
      rw [fX8_keep_L11, if_pos (by decide)]
  | succ d ih =>
    intro k i s0 s e hk hx
    cases k with
    | zero => omega
    | succ k =>
      obtain ⟨s', f1, f2, f3⟩ := ih k (i + 1) s0 (uA s 8 (nI i) (s 8 (i + 59))) (by omega) (by omega) (fun x => by
        show upd (s 8) (nI i).toNatClampNeg (s 8 (i + 59)) x = _
        rw [iCl (by omega)]
        by_cases c : x = i
        · rw [c, upd_same, hx, if_neg (by omega), if_pos (by omega)]
        · rw [upd_diff c, hx]
          by_cases c2 : x < i
          · rw [if_pos c2, if_pos (by omega)]
          · rw [if_neg c2, if_neg (by omega)])
      refine ⟨s', ?_, fun k hk => by rw [f2 k hk, uA_ne hk], f3⟩
      rw [fX8_keep_L11, if_neg (by rw [show (1357 : Int32) = nI 1357 from rfl, iLe (by decide) (by omega)]; omega), show (59 : Int32) = nI 59 from rfl, iAdd, if_pos (by rw [iIn (by omega)]; omega), if_pos (by rw [iIn (by omega)]; omega), q_lts, nI_1, iCl (show i + 59 < 2 ^ 31 by omega)]
      exact f1
theorem m_keep {s : St} {n : Nat} (hn : n ≤ 24) (h9 : s 9 0 = nI n) : ∃ s' : St, fX8_keep s = some s' ∧ (∀ k, ¬ k = 8 → ¬ k = 9 → s' k = s k) ∧ s' 9 0 = nI (n + 1 - n / 24) ∧ (∀ k i, k < n - n / 24 → i < 59 → s' 8 (59 * k + i) = s 8 (59 * (k + n / 24) + i)) ∧ ∀ i, i < 59 → s' 8 (59 * (n - n / 24) + i) = s 5 i := by
  unfold fX8_keep
  by_cases c : n = 24
  · subst c
    obtain ⟨s1, f1, f2, f3⟩ := m_kp2 1357 5000 0 s s (by omega) (by omega) (fun x => by rw [if_neg (by omega)])
    have f1 : fX8_keep_L11 5000 0 s = some s1 := f1
    have e9 : s1 9 0 = nI 24 := by rw [f2 9 (by decide)]; exact h9
    obtain ⟨s2, g1, g2, g3⟩ := m_kp1 (n := 23) (by decide) 59 5000 0 (u1 s1 9 (nI 23)) (by omega) (by omega) rfl
    have g1 : fX8_keep_L51 5000 0 (u1 s1 9 (nI 23)) = some s2 := g1
    rw [if_pos (by rw [h9]; rfl), f1, q_b1s, q_lts, e9, show nI 24 - 1 = nI 23 from rfl, q_b1s, g1, q_b1s, q_lts]
    have e92 : s2 9 0 = nI 23 := by rw [g2 9 (by decide)]; rfl
    refine ⟨_, rfl, fun k k1 k2 => by rw [u1_ne k2, g2 k k1, u1_ne k2, f2 k k1], ?_, fun k i hk hi => ?_, fun i hi => ?_⟩
    · show s2 9 0 + 1 = _; rw [e92]; rfl
    · rw [u1_ne (by decide), g3, if_neg (by omega), u1_ne (by decide), f3, if_pos (by omega)]; exact congrArg (s 8) (by omega)
    · rw [u1_ne (by decide), g3, if_pos (by omega), u1_ne (by decide), f2 5 (by decide)]; exact congrArg (s 5) (by omega)
  · obtain ⟨s2, g1, g2, g3⟩ := m_kp1 (n := n) (by omega) 59 5000 0 s (by omega) (by omega) h9
    have g1 : fX8_keep_L51 5000 0 s = some s2 := g1
    rw [if_neg (by rw [h9, show (24 : Int32) = nI 24 from rfl, iEq (by omega) (by decide)]; exact c), q_b1s, g1, q_b1s, q_lts]
    have e92 : s2 9 0 = nI n := by rw [g2 9 (by decide)]; exact h9
    have e0 : n / 24 = 0 := by omega
    refine ⟨_, rfl, fun k k1 k2 => by rw [u1_ne k2, g2 k k1], ?_, fun k i hk hi => ?_, fun i hi => ?_⟩
    · show s2 9 0 + 1 = _; rw [e92, nI_1, e0]; rfl
    · rw [u1_ne (by decide), g3, if_neg (by omega), e0]; rfl
    · rw [u1_ne (by decide), g3, if_pos (by omega)]; congr 1; omega
