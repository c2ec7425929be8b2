/-! the cells of the objects -/
abbrev wcA (cI : ClassId) (o : Nat) (a : Nat → Nat) (s : St) : va_W := [(o, .inr (0, [.ref (a 0), .ref (a 1), .ref (a 2), .int (s 3 0), .int (s 4 0)])), (a 0, .inl (cI, 24, .inl (s 0))), (a 1, .inl (cI, 24, .inl (s 1))), (a 2, .inl (cI, 24, .inl (s 2)))]
abbrev wcB (cI : ClassId) (o : Nat) (a : Nat → Nat) (s : St) : va_W := [(o, .inr (1, [.ref (a 0), .int (s 1 0), .int (s 2 0), .int (s 3 0), .int (s 4 0), .int (s 5 0), .int (s 6 0)])), (a 0, .inl (cI, 16, .inl (s 0)))]
abbrev wcF (o : Nat) (t : Lt) : va_W := [(o, .inr (2, [.long (t 0), .long (t 1)]))]
abbrev wcH (cI : ClassId) (o : Nat) (a : Nat → Nat) (s : St) : va_W := [(o, .inr (3, [.ref (a 0), .ref (a 1), .ref (a 2), .ref (a 3), .ref (a 4), .ref (a 5), .ref (a 6), .ref (a 7), .ref (a 8), .ref (a 9), .int (s 10 0), .int (s 11 0), .int (s 12 0), .int (s 13 0)])), (a 0, .inl (cI, 12, .inl (s 0))), (a 1, .inl (cI, 5, .inl (s 1))), (a 2, .inl (cI, 5, .inl (s 2))), (a 3, .inl (cI, 5, .inl (s 3))), (a 4, .inl (cI, 5, .inl (s 4))), (a 5, .inl (cI, 4, .inl (s 5))), (a 6, .inl (cI, 4, .inl (s 6))), (a 7, .inl (cI, 4, .inl (s 7))), (a 8, .inl (cI, 4, .inl (s 8))), (a 9, .inl (cI, 4, .inl (s 9)))]
abbrev wcE (o : Nat) (tp : Nat) (s : St) : va_W := [(o, .inr (4, [.ref tp, .int (s 1 0), .int (s 2 0), .int (s 3 0)]))]
abbrev wcR (cI : ClassId) (o : Nat) (a : Nat → Nat) (s : St) : va_W := [(o, .inr (5, [.ref (a 0), .ref (a 1), .ref (a 2)])), (a 0, .inl (cI, 8, .inl (s 0))), (a 1, .inl (cI, 8, .inl (s 1))), (a 2, .inl (cI, 320, .inl (s 2)))]
abbrev wcT (cB : ClassId) (o : Nat) (a : Nat → Nat) (s : St) : va_W := [(o, .inr (6, [.ref (a 0), .int (s 1 0), .int (s 2 0), .int (s 3 0), .int (s 4 0)])), (a 0, .inl (cB, 400, .inl (s 0)))]
abbrev wcX (o : Nat) (g : Nat → Nat) (s : St) : va_W := [(o, .inr (7, [.ref (g 0), .ref (g 1), .ref (g 2), .ref (g 3), .ref (g 4), .ref (g 5), .ref (g 6), .ref (g 7), .ref (g 8), .ref (g 9), .int (s 10 0), .int (s 11 0), .int (s 12 0), .int (s 13 0)]))]
abbrev wcM (cI : ClassId) (cZ : ClassId) (o : Nat) (a : Nat → Nat) (s : St) (t : Lt) : va_W := [(o, .inr (8, [.int (s 0 0), .int (s 1 0), .ref (a 2), .ref (a 3), .ref (a 4), .ref (a 5), .ref (a 6), .int (s 7 0), .ref (a 8), .int (s 9 0), .ref (a 10), .int (s 11 0), .int (s 12 0), .int (s 13 0), .int (s 14 0), .int (s 15 0), .int (s 16 0), .int (s 17 0), .int (s 18 0), .int (s 19 0), .long (t 20), .long (t 21), .long (t 22), .ref (a 23), .ref (a 24), .ref (a 25), .int (s 26 0)])), (a 2, .inl (cI, 8, .inl (s 2))), (a 3, .inl (cI, 8, .inl (s 3))), (a 4, .inl (cI, 320, .inl (s 4))), (a 5, .inl (cI, 59, .inl (s 5))), (a 6, .inl (cI, 59, .inl (s 6))), (a 8, .inl (cI, 1416, .inl (s 8))), (a 10, .inl (cI, 400, .inl (s 10))), (a 23, .inl (cZ, 2, .inl (s 23))), (a 24, .inl (cI, 118, .inl (s 24))), (a 25, .inl (cI, 16, .inl (s 25)))]
def gU (g : Nat → Nat) (k v : Nat) : Nat → Nat := fun j => cond (Nat.beq j k) v (g j)
theorem q_tso {x : Int32} {lo hi : Int} {n : Nat} (h : ∀ k : Nat, k < n → ¬ x = Int32.ofInt (lo + k)) (hh : hi + 1 = lo + n) : x.toInt < lo ∨ hi < x.toInt := by
  rcases Int.lt_or_le x.toInt lo with h1 | h1
  · exact Or.inl h1
  rcases Int.lt_or_le hi x.toInt with h2 | h2
  · exact Or.inr h2
  exfalso
  refine h (x.toInt - lo).toNat (by omega) ?_
  have e : lo + ((x.toInt - lo).toNat : Int) = x.toInt := by omega
  rw [e]
  exact (Int32.ofInt_toInt x).symm
