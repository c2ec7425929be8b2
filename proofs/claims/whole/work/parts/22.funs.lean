/-! what each method gives, as a function; none where it would throw -/
def fX0_kept (s0 : St) : Option (Int32) :=
  some ((s0 4 0))
def fX0_forgetAll (s0 : St) : Option (St) :=
  q_lt (u1 s0 4 (0 : Int32)) fun sn1 =>
  some (sn1)
def fX0_keep (s0 : St) (p1 : Int32) (p2 : Int32) (p3 : Int32) : Option (St) :=
  if inb (s0 3 0) 24 then
  q_lt (uA s0 0 (s0 3 0) p1) fun sn2 =>
  if inb (sn2 3 0) 24 then
  q_lt (uA sn2 1 (sn2 3 0) p2) fun sn4 =>
  if inb (sn4 3 0) 24 then
  q_lt (uA sn4 2 (sn4 3 0) p3) fun sn6 =>
  q_b1 (if (sn6 3 0) = (23 : Int32) then
  some (0 : Int32)
  else
  some ((sn6 3 0) + (1 : Int32))) (fun (v7 : Int32) =>
  q_lt (u1 sn6 3 v7) fun sn9 =>
  q_lt (u1 sn9 4 (if (24 : Int32) < ((sn9 4 0) + (1 : Int32)) then (24 : Int32) else ((sn9 4 0) + (1 : Int32)))) fun sn10 =>
  some (sn10))
  else none
  else none
  else none
def fX3_isGrave (s0 : St) (p1 : Int32) : Option (Int32) :=
  (if p1 < 0 then
  some ((0 : Int32))
  else
  (if (s0 10 0) ≤ p1 then
  some ((0 : Int32))
  else
  some ((1 : Int32))))
def fX3_has (p0 : Int32) (p1 : Int32) : Option (Int32) :=
  (if ((p0 >>> (p1 &&& 31)) &&& (1 : Int32)) = 0 then
  some ((0 : Int32))
  else
  some ((1 : Int32)))
def fX3_addFruit_L2 (p1 : Int32) (p2 : Int32) : Nat → Int32 → St → Option (St)
  | 0, _, _ => none
  | n3 + 1, l3_1, sl2 =>
  (if (sl2 12 0) ≤ l3_1 then
  some sl2
  else
  q_b1 (fX3_has p1 l3_1) fun r6 =>
  q_b1 (if r6 = 0 then
  some sl2
  else
  if inb l3_1 4 then
  if inb l3_1 4 then
  q_lt (uA sl2 9 l3_1 ((sl2 9 l3_1.toNatClampNeg) + p2)) fun sn13 =>
  some sn13
  else none
  else none) (fun (sj8 : St) =>
  fX3_addFruit_L2 p1 p2 n3 (l3_1 + (1 : Int32)) sj8))
def fX3_addFruit (s0 : St) (p1 : Int32) (p2 : Int32) : Option (St) :=
  q_b1 (fX3_addFruit_L2 p1 p2 5000 (0 : Int32) s0) (fun (z4 : St) =>
  some (z4))
def fX0_undoLatest (s0 : St) (s1 : St) : Option (St × St) :=
  (if (s0 4 0) = 0 then
  some (s0, s1)
  else
  q_lt (u1 s0 4 ((s0 4 0) - (1 : Int32))) fun sn2 =>
  q_b1 (if (sn2 3 0) = 0 then
  some (23 : Int32)
  else
  some ((sn2 3 0) - (1 : Int32))) (fun (v3 : Int32) =>
  q_lt (u1 sn2 3 v3) fun sn5 =>
  if inb (sn5 3 0) 24 then
  q_lt (sn5 1 (sn5 3 0).toNatClampNeg : Int32) fun x7 =>
  if inb (sn5 3 0) 24 then
  (if (sn5 0 (sn5 3 0).toNatClampNeg) = (2 : Int32) then
  q_b1 (fX3_isGrave s1 x7) fun r23 =>
  (if r23 = 0 then
  if inb (sn5 3 0) 24 then
  (if (sn5 0 (sn5 3 0).toNatClampNeg) = (3 : Int32) then
  q_lt (u1 s1 13 ((s1 13 0) &&& (((1 : Int32) <<< (x7 &&& 31)) ^^^ (-1 : Int32)))) fun sn38 =>
  some (sn5, sn38)
  else
  if inb (sn5 3 0) 24 then
  (if (sn5 0 (sn5 3 0).toNatClampNeg) = 0 then
  if inb (sn5 3 0) 24 then
  q_b1 (fX3_addFruit s1 x7 (sn5 2 (sn5 3 0).toNatClampNeg)) fun sc31 =>
  some (sn5, sc31)
  else none
  else
  if inb (sn5 3 0) 24 then
  (if (sn5 0 (sn5 3 0).toNatClampNeg) = (1 : Int32) then
  if inb (sn5 3 0) 24 then
  q_b1 (fX3_addFruit s1 x7 (sn5 2 (sn5 3 0).toNatClampNeg)) fun sc36 =>
  some (sn5, sc36)
  else none
  else
  some (sn5, s1))
  else none)
  else none)
  else none
  else
  if inb (sn5 3 0) 24 then
  if inb x7 5 then
  q_lt (uA s1 1 x7 (sn5 2 (sn5 3 0).toNatClampNeg)) fun sn41 =>
  some (sn5, sn41)
  else none
  else none)
  else
  if inb (sn5 3 0) 24 then
  (if (sn5 0 (sn5 3 0).toNatClampNeg) = (3 : Int32) then
  q_lt (u1 s1 13 ((s1 13 0) &&& (((1 : Int32) <<< (x7 &&& 31)) ^^^ (-1 : Int32)))) fun sn22 =>
  some (sn5, sn22)
  else
  if inb (sn5 3 0) 24 then
  (if (sn5 0 (sn5 3 0).toNatClampNeg) = 0 then
  if inb (sn5 3 0) 24 then
  q_b1 (fX3_addFruit s1 x7 (sn5 2 (sn5 3 0).toNatClampNeg)) fun sc15 =>
  some (sn5, sc15)
  else none
  else
  if inb (sn5 3 0) 24 then
  (if (sn5 0 (sn5 3 0).toNatClampNeg) = (1 : Int32) then
  if inb (sn5 3 0) 24 then
  q_b1 (fX3_addFruit s1 x7 (sn5 2 (sn5 3 0).toNatClampNeg)) fun sc20 =>
  some (sn5, sc20)
  else none
  else
  some (sn5, s1))
  else none)
  else none)
  else none)
  else none
  else none))
def fX3_isTree (s0 : St) (p1 : Int32) : Option (Int32) :=
  (if p1 < 0 then
  some ((0 : Int32))
  else
  (if (s0 12 0) ≤ p1 then
  some ((0 : Int32))
  else
  some ((1 : Int32))))
def fX3_loose (s0 : St) (p1 : Int32) : Option (Int32) :=
  q_b1 (fX3_isTree s0 p1) fun r1 =>
  q_b1 (if r1 = 0 then
  some (0 : Int32)
  else
  if inb p1 4 then
  some (s0 7 p1.toNatClampNeg)
  else none) (fun (v3 : Int32) =>
  (if v3 = (1 : Int32) then
  some ((2 : Int32))
  else
  (if v3 = (2 : Int32) then
  some ((1 : Int32))
  else
  (if v3 = (3 : Int32) then
  some ((1 : Int32))
  else
  (if v3 = (4 : Int32) then
  some ((3 : Int32))
  else
  some ((0 : Int32)))))))
def fX1_begin (s0 : St) (s1 : St) (p2 : Int32) : Option (St) :=
  q_lt (u1 s0 1 (0 : Int32)) fun sn1 =>
  q_b1 (fX3_isTree s1 p2) fun r2 =>
  (if r2 = 0 then
  some (sn1)
  else
  q_lt (u1 sn1 2 p2) fun sn5 =>
  if inb p2 4 then
  q_lt (u1 sn5 3 (s1 7 p2.toNatClampNeg)) fun sn7 =>
  if inb p2 4 then
  q_lt (u1 sn7 4 (s1 8 p2.toNatClampNeg)) fun sn9 =>
  if inb p2 4 then
  q_lt (u1 sn9 5 (s1 9 p2.toNatClampNeg)) fun sn11 =>
  q_b1 (fX3_loose s1 p2) fun r12 =>
  q_lt (u1 sn11 6 r12) fun sn14 =>
  some (sn14)
  else none
  else none
  else none)
def fX1_traced (s0 : St) (p1 : Int32) : Option (Int32) :=
  (if p1 < 0 then
  some ((-1000000 : Int32))
  else
  (if (s0 1 0) ≤ p1 then
  some ((-1000000 : Int32))
  else
  (if (16 : Int32) ≤ p1 then
  some ((-1000000 : Int32))
  else
  if inb p1 16 then
  some ((s0 0 p1.toNatClampNeg))
  else none)))
def fX1_leave (s0 : St) (p1 : Int32) : Option (St) :=
  (if (16 : Int32) ≤ (s0 1 0) then
  some (s0)
  else
  if inb (s0 1 0) 16 then
  q_lt (uA s0 0 (s0 1 0) p1) fun sn3 =>
  q_lt (u1 sn3 1 ((sn3 1 0) + (1 : Int32))) fun sn4 =>
  some (sn4)
  else none)
def fX1_lentSize (s0 : St) : Option (Int32 × St) :=
  q_b1 (fX1_leave s0 (10 : Int32)) fun sc1 =>
  some ((sc1 5 0), sc1)
def fX1_lentMark (s0 : St) : Option (Int32 × St) :=
  q_b1 (fX1_leave s0 (20 : Int32)) fun sc1 =>
  some ((sc1 2 0), sc1)
def fX1_pearMark (s0 : St) : Option (Int32 × St) :=
  q_b1 (fX1_leave s0 (21 : Int32)) fun sc1 =>
  q_b2 (fX1_lentMark sc1) fun r3 sc4 =>
  some ((r3 + (sc4 4 0)), sc4)
def fX1_nutMark (s0 : St) : Option (Int32 × St) :=
  q_b1 (fX1_leave s0 (22 : Int32)) fun sc1 =>
  q_b2 (fX1_pearMark sc1) fun r3 sc4 =>
  some ((r3 - (1000 : Int32)), sc4)
def fX1_ashMark (s0 : St) : Option (Int32 × St) :=
  q_b1 (fX1_leave s0 (23 : Int32)) fun sc1 =>
  q_b2 (fX1_lentMark sc1) fun r3 sc4 =>
  some ((r3 + ((10 : Int32) * (sc4 6 0))), sc4)
def fX1_mark (s0 : St) : Option (Int32 × St) :=
  (if (s0 3 0) = (1 : Int32) then
  q_b2 (fX1_pearMark s0) fun r2 sc3 =>
  some (r2, sc3)
  else
  (if (s0 3 0) = (2 : Int32) then
  q_b2 (fX1_nutMark s0) fun r6 sc7 =>
  some (r6, sc7)
  else
  (if (s0 3 0) = (3 : Int32) then
  q_b1 (fX1_leave s0 (24 : Int32)) fun sc10 =>
  q_b2 (fX1_nutMark sc10) fun r12 sc13 =>
  some (((2 : Int32) * r12), sc13)
  else
  (if (s0 3 0) = (4 : Int32) then
  q_b2 (fX1_ashMark s0) fun r16 sc17 =>
  some (r16, sc17)
  else
  (if (s0 3 0) = (5 : Int32) then
  q_b2 (fX1_ashMark s0) fun r20 sc21 =>
  some (r20, sc21)
  else
  q_b2 (fX1_lentMark s0) fun r23 sc24 =>
  some (r23, sc24))))))
def fX1_pearSize (s0 : St) : Option (Int32 × St) :=
  q_b1 (fX1_leave s0 (11 : Int32)) fun sc1 =>
  q_b2 (fX1_lentSize sc1) fun r3 sc4 =>
  q_b2 (fX1_mark sc4) fun r6 sc7 =>
  some ((r3 + r6), sc7)
def fX1_ashSize (s0 : St) : Option (Int32 × St) :=
  q_b1 (fX1_leave s0 (13 : Int32)) fun sc1 =>
  q_b2 (fX1_lentSize sc1) fun r3 sc4 =>
  q_b2 (fX1_mark sc4) fun r6 sc7 =>
  some ((r3 - r6), sc7)
def fX1_size (s0 : St) : Option (Int32 × St) :=
  (if (s0 3 0) = (1 : Int32) then
  q_b2 (fX1_pearSize s0) fun r2 sc3 =>
  some (r2, sc3)
  else
  (if (s0 3 0) = (2 : Int32) then
  q_b2 (fX1_pearSize s0) fun r6 sc7 =>
  some (r6, sc7)
  else
  (if (s0 3 0) = (3 : Int32) then
  q_b1 (fX1_leave s0 (12 : Int32)) fun sc10 =>
  q_b2 (fX1_pearSize sc10) fun r12 sc13 =>
  some ((-r12), sc13)
  else
  (if (s0 3 0) = (4 : Int32) then
  q_b2 (fX1_ashSize s0) fun r16 sc17 =>
  some (r16, sc17)
  else
  (if (s0 3 0) = (5 : Int32) then
  q_b1 (fX1_leave s0 (14 : Int32)) fun sc20 =>
  q_b2 (fX1_ashSize sc20) fun r22 sc23 =>
  some (((2 : Int32) * r22), sc23)
  else
  q_b2 (fX1_lentSize s0) fun r25 sc26 =>
  some (r25, sc26))))))
def fX2_commonDivisor_L9 : Nat → Int64 → Int64 → Int32 → Option (Int64)
  | 0, _, _, _ => none
  | n4 + 1, l4_1, l6_2, l8_3 =>
  (if (1000 : Int32) ≤ l8_3 then
  some l4_1
  else
  (if (lg_cmp l6_2 (0 : Int64)) = 0 then
  some l4_1
  else
  if ¬ l6_2 = 0 then
  q_lt (l4_1 - l4_1 / l6_2 * l6_2 : Int64) fun x9 =>
  fX2_commonDivisor_L9 n4 l6_2 x9 (l8_3 + (1 : Int32))
  else none))
def fX2_commonDivisor (p0 : Int64) (p2 : Int64) : Option (Int64) :=
  q_b1 (fX2_commonDivisor_L9 5000 p0 p2 (0 : Int32)) (fun (z5 : Int64) =>
  some (z5))
def fX2_become (t0 : Lt) (p1 : Int64) (p3 : Int64) : Option (Lt) :=
  q_b1 (fX2_commonDivisor p1 p3) fun r1 =>
  (if (lg_cmp r1 (0 : Int64)) = 0 then
  some (t0)
  else
  if ¬ r1 = 0 then
  q_lt (uL t0 0 (p1 / r1)) fun tn5 =>
  if ¬ r1 = 0 then
  q_lt (uL tn5 1 (p3 / r1)) fun tn7 =>
  some (tn7)
  else none
  else none)
def fX2_part (t0 : Lt) (p1 : Int32) : Option (Int64) :=
  (if p1 = 0 then
  some ((t0 0))
  else
  some ((t0 1)))
def fX3_clear (s0 : St) : Option (St) :=
  q_lt (u1 s0 10 (0 : Int32)) fun sn1 =>
  q_lt (u1 sn1 11 (0 : Int32)) fun sn2 =>
  q_lt (u1 sn2 12 (0 : Int32)) fun sn3 =>
  q_lt (u1 sn3 13 (0 : Int32)) fun sn4 =>
  some (sn4)
def fX3_become (s0 : St) (s1 : St) : Option (St) :=
  q_lt (u2 s0 0 (va_cpy (s1 0) (s0 0) (0 : Int32).toNatClampNeg (0 : Int32).toNatClampNeg (12 : Int32).toNatClampNeg)) fun sn1 =>
  q_lt (u2 sn1 1 (va_cpy (s1 1) (sn1 1) (0 : Int32).toNatClampNeg (0 : Int32).toNatClampNeg (5 : Int32).toNatClampNeg)) fun sn2 =>
  q_lt (u2 sn2 2 (va_cpy (s1 2) (sn2 2) (0 : Int32).toNatClampNeg (0 : Int32).toNatClampNeg (5 : Int32).toNatClampNeg)) fun sn3 =>
  q_lt (u2 sn3 3 (va_cpy (s1 3) (sn3 3) (0 : Int32).toNatClampNeg (0 : Int32).toNatClampNeg (5 : Int32).toNatClampNeg)) fun sn4 =>
  q_lt (u2 sn4 4 (va_cpy (s1 4) (sn4 4) (0 : Int32).toNatClampNeg (0 : Int32).toNatClampNeg (5 : Int32).toNatClampNeg)) fun sn5 =>
  q_lt (u2 sn5 5 (va_cpy (s1 5) (sn5 5) (0 : Int32).toNatClampNeg (0 : Int32).toNatClampNeg (4 : Int32).toNatClampNeg)) fun sn6 =>
  q_lt (u2 sn6 6 (va_cpy (s1 6) (sn6 6) (0 : Int32).toNatClampNeg (0 : Int32).toNatClampNeg (4 : Int32).toNatClampNeg)) fun sn7 =>
  q_lt (u2 sn7 7 (va_cpy (s1 7) (sn7 7) (0 : Int32).toNatClampNeg (0 : Int32).toNatClampNeg (4 : Int32).toNatClampNeg)) fun sn8 =>
  q_lt (u2 sn8 8 (va_cpy (s1 8) (sn8 8) (0 : Int32).toNatClampNeg (0 : Int32).toNatClampNeg (4 : Int32).toNatClampNeg)) fun sn9 =>
  q_lt (u2 sn9 9 (va_cpy (s1 9) (sn9 9) (0 : Int32).toNatClampNeg (0 : Int32).toNatClampNeg (4 : Int32).toNatClampNeg)) fun sn10 =>
  q_lt (u1 sn10 10 (s1 10 0)) fun sn11 =>
  q_lt (u1 sn11 11 (s1 11 0)) fun sn12 =>
  q_lt (u1 sn12 12 (s1 12 0)) fun sn13 =>
  q_lt (u1 sn13 13 (s1 13 0)) fun sn14 =>
  some (sn14)
def fX3_isHorn (s0 : St) (p1 : Int32) : Option (Int32) :=
  (if p1 < 0 then
  some ((0 : Int32))
  else
  (if (s0 11 0) ≤ p1 then
  some ((0 : Int32))
  else
  some ((1 : Int32))))
def fX3_isCracked (s0 : St) (p1 : Int32) : Option (Int32) :=
  q_b1 (fX3_has (s0 13 0) p1) fun r1 =>
  if isb r1 then
  some (r1)
  else none
def fX3_hasTreeAt_L2 (p1 : Int32) (s0 : St) : Nat → Int32 → Option (Int32)
  | 0, _ => none
  | n2 + 1, l2_1 =>
  (if (s0 12 0) ≤ l2_1 then
  some ((0 : Int32))
  else
  if inb l2_1 4 then
  (if (s0 8 l2_1.toNatClampNeg) = p1 then
  some ((1 : Int32))
  else
  fX3_hasTreeAt_L2 p1 s0 n2 (l2_1 + (1 : Int32)))
  else none)
def fX3_hasTreeAt (s0 : St) (p1 : Int32) : Option (Int32) :=
  fX3_hasTreeAt_L2 p1 s0 5000 (0 : Int32)
def fX3_fruitInAll_L4 (s0 : St) : Nat → Int32 → Int32 → Option (Int32)
  | 0, _, _ => none
  | n3 + 1, l1_1, l2_2 =>
  (if (s0 12 0) ≤ l2_2 then
  some l1_1
  else
  if inb l2_2 4 then
  q_lt (l1_1 + (s0 9 l2_2.toNatClampNeg) : Int32) fun x7 =>
  fX3_fruitInAll_L4 s0 n3 x7 (l2_2 + (1 : Int32))
  else none)
def fX3_fruitInAll (s0 : St) : Option (Int32) :=
  q_b1 (fX3_fruitInAll_L4 s0 5000 (0 : Int32) (0 : Int32)) (fun (z4 : Int32) =>
  some (z4))
def fX3_bears (s0 : St) (p1 : Int32) (p2 : Int32) : Option (Int32) :=
  q_b1 (fX3_isTree s0 p1) fun r1 =>
  (if r1 = 0 then
  some ((0 : Int32))
  else
  if inb p1 4 then
  (if (s0 9 p1.toNatClampNeg) ≤ 0 then
  some ((0 : Int32))
  else
  q_b1 (fX3_has p2 p1) fun r6 =>
  (if r6 = 0 then
  some ((1 : Int32))
  else
  some ((0 : Int32))))
  else none)
def fX3_blown (s0 : St) (p1 : Int32) (p2 : Int32) : Option (Int32) :=
  q_b1 (fX3_bears s0 p1 (0 : Int32)) fun r1 =>
  (if r1 = 0 then
  some ((0 : Int32))
  else
  (if p2 < 0 then
  some ((0 : Int32))
  else
  (if p2 < (12 : Int32) then
  q_b1 (fX3_loose s0 p1) fun r6 =>
  if inb p2 12 then
  some ((r6 * (s0 0 p2.toNatClampNeg)))
  else none
  else
  some ((0 : Int32)))))
def fX3_arrives (s0 : St) (p1 : Int32) (p2 : Int32) : Option (Int32) :=
  if inb p1 4 then
  if inb p1 4 then
  if inb p2 5 then
  if inb p2 5 then
  some ((((s0 6 p1.toNatClampNeg) - (if 0 ≤ ((s0 5 p1.toNatClampNeg) - (s0 1 p2.toNatClampNeg)) then ((s0 5 p1.toNatClampNeg) - (s0 1 p2.toNatClampNeg)) else 0 - ((s0 5 p1.toNatClampNeg) - (s0 1 p2.toNatClampNeg)))) + (s0 2 p2.toNatClampNeg)))
  else none
  else none
  else none
  else none
def fX3_hornsHeardBy_L4 (p1 : Int32) (s0 : St) : Nat → Int32 → Int32 → Option (Int32)
  | 0, _, _ => none
  | n3 + 1, l2_1, l3_2 =>
  (if (s0 11 0) ≤ l3_2 then
  some l2_1
  else
  q_b1 (fX3_isGrave s0 p1) fun r6 =>
  q_b1 (if r6 = 0 then
  some l2_1
  else
  q_b1 (fX3_isCracked s0 l3_2) fun r11 =>
  (if r11 = 0 then
  q_b1 (fX3_arrives s0 l3_2 p1) fun r14 =>
  (if r14 < (10 : Int32) then
  some l2_1
  else
  q_lt (l2_1 ||| ((1 : Int32) <<< (l3_2 &&& 31)) : Int32) fun x17 =>
  some x17)
  else
  some l2_1)) (fun (v8 : Int32) =>
  fX3_hornsHeardBy_L4 p1 s0 n3 v8 (l3_2 + (1 : Int32))))
def fX3_hornsHeardBy (s0 : St) (p1 : Int32) : Option (Int32) :=
  q_b1 (fX3_hornsHeardBy_L4 p1 s0 5000 (0 : Int32) (0 : Int32)) (fun (z4 : Int32) =>
  some (z4))
def fX3_treeOf_L9 (p1 : Int32) (p2 : Int32) (s0 : St) : Nat → Int32 → Int32 → Int32 → Option (Int32)
  | 0, _, _, _ => none
  | n4 + 1, l3_1, l4_2, l5_3 =>
  (if (s0 12 0) ≤ l5_3 then
  some l3_1
  else
  q_b1 (fX3_isGrave s0 p1) fun r7 =>
  q_b2 (if r7 = 0 then
  some (l3_1, l4_2)
  else
  q_b1 (fX3_bears s0 l5_3 p2) fun r13 =>
  (if r13 = 0 then
  some (l3_1, l4_2)
  else
  if inb l5_3 4 then
  if inb p1 5 then
  (if l4_2 ≤ (if 0 ≤ ((s0 8 l5_3.toNatClampNeg) - (s0 1 p1.toNatClampNeg)) then ((s0 8 l5_3.toNatClampNeg) - (s0 1 p1.toNatClampNeg)) else 0 - ((s0 8 l5_3.toNatClampNeg) - (s0 1 p1.toNatClampNeg))) then
  some (l3_1, l4_2)
  else
  if inb l5_3 4 then
  if inb p1 5 then
  q_lt ((if 0 ≤ ((s0 8 l5_3.toNatClampNeg) - (s0 1 p1.toNatClampNeg)) then ((s0 8 l5_3.toNatClampNeg) - (s0 1 p1.toNatClampNeg)) else 0 - ((s0 8 l5_3.toNatClampNeg) - (s0 1 p1.toNatClampNeg))) : Int32) fun x21 =>
  some (l5_3, x21)
  else none
  else none)
  else none
  else none)) (fun (v9 : Int32) (v10 : Int32) =>
  fX3_treeOf_L9 p1 p2 s0 n4 v9 v10 (l5_3 + (1 : Int32))))
def fX3_treeOf (s0 : St) (p1 : Int32) (p2 : Int32) : Option (Int32) :=
  q_b1 (fX3_treeOf_L9 p1 p2 s0 5000 (-1000000 : Int32) (4 : Int32) (0 : Int32)) (fun (z5 : Int32) =>
  some (z5))
def fX3_gravesOf_L4 (p1 : Int32) (s0 : St) : Nat → Int32 → Int32 → Option (Int32)
  | 0, _, _ => none
  | n3 + 1, l2_1, l3_2 =>
  (if (s0 10 0) ≤ l3_2 then
  some l2_1
  else
  q_b1 (fX3_treeOf s0 l3_2 (0 : Int32)) fun r6 =>
  q_b1 (if r6 = p1 then
  q_lt (l2_1 ||| ((1 : Int32) <<< (l3_2 &&& 31)) : Int32) fun x11 =>
  some x11
  else
  some l2_1) (fun (v8 : Int32) =>
  fX3_gravesOf_L4 p1 s0 n3 v8 (l3_2 + (1 : Int32))))
def fX3_gravesOf (s0 : St) (p1 : Int32) : Option (Int32) :=
  q_b1 (fX3_gravesOf_L4 p1 s0 5000 (0 : Int32) (0 : Int32)) (fun (z4 : Int32) =>
  some (z4))
def fX3_minding_L6 (p1 : Int32) (p2 : Int32) (p3 : Int32) (s0 : St) : Nat → Int32 → Int32 → Option (Int32)
  | 0, _, _ => none
  | n3 + 1, l4_1, l5_2 =>
  (if (s0 10 0) ≤ l5_2 then
  some l4_1
  else
  if inb l5_2 5 then
  q_b1 (if ((s0 4 l5_2.toNatClampNeg) &&& p1) = 0 then
  some l4_1
  else
  q_b1 (fX3_hornsHeardBy s0 l5_2) fun r10 =>
  (if (r10 &&& p2) = 0 then
  some l4_1
  else
  q_b1 (fX3_treeOf s0 l5_2 p3) fun r13 =>
  (if r13 = (-1000000 : Int32) then
  some l4_1
  else
  q_lt (l4_1 ||| ((1 : Int32) <<< (l5_2 &&& 31)) : Int32) fun x16 =>
  some x16))) (fun (v7 : Int32) =>
  fX3_minding_L6 p1 p2 p3 s0 n3 v7 (l5_2 + (1 : Int32)))
  else none)
def fX3_minding (s0 : St) (p1 : Int32) (p2 : Int32) (p3 : Int32) : Option (Int32) :=
  q_b1 (fX3_minding_L6 p1 p2 p3 s0 5000 (0 : Int32) (0 : Int32)) (fun (z4 : Int32) =>
  some (z4))
def fX3_withTemper_L4 (p1 : Int32) (s0 : St) : Nat → Int32 → Int32 → Option (Int32)
  | 0, _, _ => none
  | n3 + 1, l2_1, l3_2 =>
  (if (s0 10 0) ≤ l3_2 then
  some l2_1
  else
  q_b1 (fX3_has p1 l3_2) fun r6 =>
  q_b1 (if r6 = 0 then
  some l2_1
  else
  if inb l3_2 5 then
  (if (s0 3 l3_2.toNatClampNeg) ≤ 0 then
  some l2_1
  else
  q_lt (l2_1 ||| ((1 : Int32) <<< (l3_2 &&& 31)) : Int32) fun x13 =>
  some x13)
  else none) (fun (v8 : Int32) =>
  fX3_withTemper_L4 p1 s0 n3 v8 (l3_2 + (1 : Int32))))
def fX3_withTemper (s0 : St) (p1 : Int32) : Option (Int32) :=
  q_b1 (fX3_withTemper_L4 p1 s0 5000 (0 : Int32) (0 : Int32)) (fun (z4 : Int32) =>
  some (z4))
def fX3_kept (p0 : Int64) (p2 : Int32) : Option (Int64) :=
  some (((p0 / (10 : Int64)) * (((10 : Int32) - p2).toInt64)))
def fX3_keptBy_L6 (p1 : Int32) (s0 : St) : Nat → Int64 → Int32 → Option (Int64)
  | 0, _, _ => none
  | n3 + 1, l4_1, l6_2 =>
  (if (s0 10 0) ≤ l6_2 then
  some l4_1
  else
  q_b1 (fX3_has p1 l6_2) fun r6 =>
  q_b1 (if r6 = 0 then
  some l4_1
  else
  if inb l6_2 5 then
  q_b1 (fX3_kept l4_1 (s0 3 l6_2.toNatClampNeg)) fun r12 =>
  some r12
  else none) (fun (v8 : Int64) =>
  fX3_keptBy_L6 p1 s0 n3 v8 (l6_2 + (1 : Int32))))
def fX3_keptBy (s0 : St) (p1 : Int32) (p2 : Int64) : Option (Int64) :=
  q_b1 (fX3_keptBy_L6 p1 s0 5000 p2 (0 : Int32)) (fun (z4 : Int64) =>
  some (z4))
def fX3_passing_L13 (p2 : Int32) (p3 : Int32) (s0 : St) : Nat → Int64 → Int32 → Option (Int64)
  | 0, _, _ => none
  | n5 + 1, l4_3, l6_4 =>
  (if (s0 12 0) ≤ l6_4 then
  some l4_3
  else
  q_b1 (fX3_bears s0 l6_4 p3) fun r8 =>
  q_b1 (if r8 = 0 then
  some l4_3
  else
  q_b1 (fX3_blown s0 l6_4 p2) fun r13 =>
  q_b1 (fX3_kept l4_3 r13) fun r15 =>
  some r15) (fun (v10 : Int64) =>
  fX3_passing_L13 p2 p3 s0 n5 v10 (l6_4 + (1 : Int32))))
def fX3_passing (s0 : St) (p1 : Int32) (p2 : Int32) (p3 : Int32) : Option (Int64) :=
  q_b1 (fX3_keptBy s0 p1 (1000000000 : Int64)) fun r1 =>
  q_b1 (fX3_passing_L13 p2 p3 s0 5000 r1 (0 : Int32)) (fun (z6 : Int64) =>
  some (z6))
def fX3_hearing_L4 (p1 : Int32) (s0 : St) : Nat → Int32 → Int32 → Option (Int32)
  | 0, _, _ => none
  | n3 + 1, l2_1, l3_2 =>
  (if (s0 10 0) ≤ l3_2 then
  some l2_1
  else
  q_b1 (fX3_hornsHeardBy s0 l3_2) fun r6 =>
  q_b1 (if (r6 &&& p1) = 0 then
  some l2_1
  else
  some (l2_1 + (1 : Int32))) (fun (v8 : Int32) =>
  fX3_hearing_L4 p1 s0 n3 v8 (l3_2 + (1 : Int32))))
def fX3_hearing (s0 : St) (p1 : Int32) : Option (Int32) :=
  q_b1 (fX3_hearing_L4 p1 s0 5000 (0 : Int32) (0 : Int32)) (fun (z4 : Int32) =>
  some (z4))
def fX3_bestWay_L53 (p4 : Int32) (r7 : Int32) (s0 : St) (v11 : Int32) (l8_3 : Int32) : Nat → Int32 → Int64 → Int32 → Option (Int32 × Int64)
  | 0, _, _, _ => none
  | n16 + 1, l5_13, l6_14, l11_15 =>
  (if v11 = 0 then
  some (l5_13, l6_14)
  else
  (if p4 < l11_15 then
  some (l5_13, l6_14)
  else
  q_b1 (fX3_passing s0 r7 l11_15 (0 : Int32)) fun r21 =>
  q_lt (((16 : Int32) * l11_15) + l8_3 : Int32) fun x23 =>
  q_b2 (if 0 < (lg_cmp r21 l6_14) then
  some (x23, r21)
  else
  (if (lg_cmp r21 l6_14) = 0 then
  (if l5_13 ≤ x23 then
  some (l5_13, l6_14)
  else
  some (x23, r21))
  else
  some (l5_13, l6_14))) (fun (v24 : Int32) (v25 : Int64) =>
  fX3_bestWay_L53 p4 r7 s0 v11 l8_3 n16 v24 v25 (l11_15 + (1 : Int32)))))
def fX3_bestWay_L12 (p1 : Int32) (p2 : Int32) (p3 : Int32) (p4 : Int32) (s0 : St) : Nat → Int32 → Int64 → Int32 → Option (Int32)
  | 0, _, _, _ => none
  | n4 + 1, l5_1, l6_2, l8_3 =>
  (if ((1 : Int32) <<< ((s0 11 0) &&& 31)) ≤ l8_3 then
  some l5_1
  else
  q_b1 (fX3_minding s0 p1 l8_3 (0 : Int32)) fun r7 =>
  q_b1 (fX3_hearing s0 l8_3) fun r9 =>
  q_b1 (if r9 < p2 then
  some (0 : Int32)
  else
  some (1 : Int32)) (fun (v11 : Int32) =>
  q_b2 (fX3_bestWay_L53 p4 r7 s0 v11 l8_3 5000 l5_1 l6_2 p3) (fun (z17 : Int32) (z18 : Int64) =>
  fX3_bestWay_L12 p1 p2 p3 p4 s0 n4 z17 z18 (l8_3 + (1 : Int32)))))
def fX3_bestWay (s0 : St) (p1 : Int32) (p2 : Int32) (p3 : Int32) (p4 : Int32) : Option (Int32) :=
  q_b1 (fX3_bestWay_L12 p1 p2 p3 p4 s0 5000 (-1000000 : Int32) (-1 : Int64) (0 : Int32)) (fun (z5 : Int32) =>
  some (z5))
def fJ6_bitCount_0f7a4 (p0 : Int32) : Option (Int32) :=
  q_lt (p0 - (((p0.toUInt32 >>> ((1 : Int32).toUInt32 &&& Int32.toUInt32 31)).toInt32) &&& (1431655765 : Int32)) : Int32) fun x1 =>
  q_lt ((x1 &&& (858993459 : Int32)) + (((x1.toUInt32 >>> ((2 : Int32).toUInt32 &&& Int32.toUInt32 31)).toInt32) &&& (858993459 : Int32)) : Int32) fun x2 =>
  q_lt ((x2 + ((x2.toUInt32 >>> ((4 : Int32).toUInt32 &&& Int32.toUInt32 31)).toInt32)) &&& (252645135 : Int32) : Int32) fun x3 =>
  q_lt (x3 + ((x3.toUInt32 >>> ((8 : Int32).toUInt32 &&& Int32.toUInt32 31)).toInt32) : Int32) fun x4 =>
  q_lt (x4 + ((x4.toUInt32 >>> ((16 : Int32).toUInt32 &&& Int32.toUInt32 31)).toInt32) : Int32) fun x5 =>
  some ((x5 &&& (63 : Int32)))
def fX3_fewestGone_L10 (p1 : Int32) (p2 : Int32) (p3 : Int32) (p4 : Int32) (s0 : St) : Nat → Int32 → Int32 → Int32 → Option (Int32)
  | 0, _, _, _ => none
  | n4 + 1, l5_1, l6_2, l7_3 =>
  (if ((1 : Int32) <<< ((s0 12 0) &&& 31)) ≤ l7_3 then
  some l5_1
  else
  q_b1 (fJ6_bitCount_0f7a4 l7_3) fun r7 =>
  q_b2 (if l6_2 ≤ r7 then
  some (l5_1, l6_2)
  else
  q_b1 (fX3_minding s0 p1 p2 l7_3) fun r13 =>
  q_b1 (fX3_passing s0 r13 p3 l7_3) fun r15 =>
  (if (lg_cmp r15 ((1000000 : Int64) * p4.toInt64)) < 0 then
  some (l5_1, l6_2)
  else
  q_b1 (fJ6_bitCount_0f7a4 l7_3) fun r18 =>
  some (l7_3, r18))) (fun (v9 : Int32) (v10 : Int32) =>
  fX3_fewestGone_L10 p1 p2 p3 p4 s0 n4 v9 v10 (l7_3 + (1 : Int32))))
def fX3_fewestGone (s0 : St) (p1 : Int32) (p2 : Int32) (p3 : Int32) (p4 : Int32) : Option (Int32) :=
  q_b1 (fX3_fewestGone_L10 p1 p2 p3 p4 s0 5000 (-1000000 : Int32) (5 : Int32) (0 : Int32)) (fun (z5 : Int32) =>
  some (z5))
def fX3_drawFallen_L69 (p1 : Int32) (s0 : St) (l7_3 : Int32) : Nat → Int64 → Int32 → Int32 → Option (Int64 × Int32)
  | 0, _, _, _ => none
  | n21 + 1, l5_18, l8_19, l9_20 =>
  (if (s0 10 0) ≤ l9_20 then
  some (l5_18, l8_19)
  else
  q_b1 (fX3_has p1 l9_20) fun r25 =>
  q_b2 (if r25 = 0 then
  some (l5_18, l8_19)
  else
  q_b1 (fX3_treeOf s0 l9_20 (0 : Int32)) fun r31 =>
  (if r31 = l7_3 then
  q_lt ((l5_18 * (16807 : Int64)) - (l5_18 * (16807 : Int64)) / (2147483647 : Int64) * (2147483647 : Int64) : Int64) fun x34 =>
  if inb l9_20 5 then
  q_b1 (if (lg_cmp (x34 - x34 / (10 : Int64) * (10 : Int64)) ((s0 3 l9_20.toNatClampNeg).toInt64)) < 0 then
  some (1 : Int32)
  else
  (if l8_19 = 0 then
  some (0 : Int32)
  else
  some (1 : Int32))) (fun (v36 : Int32) =>
  some (x34, v36))
  else none
  else
  some (l5_18, l8_19))) (fun (v27 : Int64) (v28 : Int32) =>
  fX3_drawFallen_L69 p1 s0 l7_3 n21 v27 v28 (l9_20 + (1 : Int32))))
def fX3_drawFallen_L10 (p1 : Int32) (p2 : Int32) (s0 : St) : Nat → Int32 → Int64 → Int32 → Option (Int32)
  | 0, _, _, _ => none
  | n4 + 1, l4_1, l5_2, l7_3 =>
  (if (s0 12 0) ≤ l7_3 then
  some l4_1
  else
  q_b1 (fX3_bears s0 l7_3 (0 : Int32)) fun r7 =>
  q_b2 (if r7 = 0 then
  some (l4_1, l5_2)
  else
  q_lt ((l5_2 * (16807 : Int64)) - (l5_2 * (16807 : Int64)) / (2147483647 : Int64) * (2147483647 : Int64) : Int64) fun x13 =>
  q_b1 (fX3_blown s0 l7_3 p2) fun r14 =>
  q_b1 (if 0 ≤ (lg_cmp (x13 - x13 / (10 : Int64) * (10 : Int64)) r14.toInt64) then
  some (0 : Int32)
  else
  some (1 : Int32)) (fun (v16 : Int32) =>
  q_b2 (fX3_drawFallen_L69 p1 s0 l7_3 5000 x13 v16 (0 : Int32)) (fun (z22 : Int64) (z23 : Int32) =>
  (if z23 = 0 then
  some (l4_1, z22)
  else
  q_lt (l4_1 ||| ((1 : Int32) <<< (l7_3 &&& 31)) : Int32) fun x41 =>
  some (x41, z22))))) (fun (v9 : Int32) (v10 : Int64) =>
  fX3_drawFallen_L10 p1 p2 s0 n4 v9 v10 (l7_3 + (1 : Int32))))
def fX3_drawFallen (s0 : St) (p1 : Int32) (p2 : Int32) (p3 : Int32) : Option (Int32) :=
  q_b1 (fX3_drawFallen_L10 p1 p2 s0 5000 (0 : Int32) p3.toInt64 (0 : Int32)) (fun (z5 : Int32) =>
  some (z5))
def fX4_faultNumber (s0 : St) : Option (Int32) :=
  some ((s0 2 0))
def fX4_faultPlace (s0 : St) : Option (Int32) :=
  some ((s0 3 0))
def fX6_isBlank (p0 : Int32) : Option (Int32) :=
  (if p0 = (32 : Int32) then
  some ((1 : Int32))
  else
  (if p0 = (10 : Int32) then
  some ((1 : Int32))
  else
  some ((0 : Int32))))
def fX6_isLetter (p0 : Int32) : Option (Int32) :=
  (if p0 < (97 : Int32) then
  some ((0 : Int32))
  else
  (if (122 : Int32) < p0 then
  some ((0 : Int32))
  else
  some ((1 : Int32))))
def fX6_readLetters_L0 : Nat → St → Option (St)
  | 0, _ => none
  | n2 + 1, sl1 =>
  (if (sl1 1 0) ≤ (sl1 3 0) then
  some sl1
  else
  if inb (sl1 3 0) 400 then
  q_b1 (fX6_isLetter (sl1 0 (sl1 3 0).toNatClampNeg)) fun r6 =>
  (if r6 = 0 then
  some sl1
  else
  q_lt (u1 sl1 3 ((sl1 3 0) + (1 : Int32))) fun sn9 =>
  fX6_readLetters_L0 n2 sn9)
  else none)
def fX6_readLetters (s0 : St) : Option (St) :=
  q_b1 (fX6_readLetters_L0 5000 s0) (fun (z3 : St) =>
  some (z3))
def fX6_isFigure (p0 : Int32) : Option (Int32) :=
  (if p0 < (48 : Int32) then
  some ((0 : Int32))
  else
  (if (57 : Int32) < p0 then
  some ((0 : Int32))
  else
  some ((1 : Int32))))
def fX6_readFigures_L0 : Nat → St → Option (St)
  | 0, _ => none
  | n2 + 1, sl1 =>
  (if (sl1 1 0) ≤ (sl1 3 0) then
  some sl1
  else
  if inb (sl1 3 0) 400 then
  q_b1 (fX6_isFigure (sl1 0 (sl1 3 0).toNatClampNeg)) fun r6 =>
  (if r6 = 0 then
  some sl1
  else
  q_lt (u1 sl1 3 ((sl1 3 0) + (1 : Int32))) fun sn9 =>
  fX6_readFigures_L0 n2 sn9)
  else none)
def fX6_readFigures (s0 : St) : Option (St) :=
  q_b1 (fX6_readFigures_L0 5000 s0) (fun (z3 : St) =>
  some (z3))
def fX6_readNext_L8 : Nat → St → Option (St)
  | 0, _ => none
  | n3 + 1, sl2 =>
  (if (sl2 1 0) ≤ (sl2 2 0) then
  some sl2
  else
  if inb (sl2 2 0) 400 then
  q_b1 (fX6_isBlank (sl2 0 (sl2 2 0).toNatClampNeg)) fun r7 =>
  (if r7 = 0 then
  some sl2
  else
  q_lt (u1 sl2 2 ((sl2 2 0) + (1 : Int32))) fun sn10 =>
  fX6_readNext_L8 n3 sn10)
  else none)
def fX6_readNext (s0 : St) : Option (St) :=
  q_lt (u1 s0 2 (s0 3 0)) fun sn1 =>
  q_b1 (fX6_readNext_L8 5000 sn1) (fun (z4 : St) =>
  q_lt (u1 z4 3 ((z4 2 0) + (1 : Int32))) fun sn11 =>
  (if (sn11 2 0) < (sn11 1 0) then
  if inb (sn11 2 0) 400 then
  q_b1 (fX6_isLetter (sn11 0 (sn11 2 0).toNatClampNeg)) fun r14 =>
  (if r14 = 0 then
  if inb (sn11 2 0) 400 then
  q_b1 (fX6_isFigure (sn11 0 (sn11 2 0).toNatClampNeg)) fun r18 =>
  (if r18 = 0 then
  if inb (sn11 2 0) 400 then
  q_b1 (if (sn11 0 (sn11 2 0).toNatClampNeg) = (59 : Int32) then
  some (3 : Int32)
  else
  some (4 : Int32)) (fun (v22 : Int32) =>
  q_lt (u1 sn11 4 v22) fun sn24 =>
  some (sn24))
  else none
  else
  q_b1 (fX6_readFigures sn11) fun sc26 =>
  q_b1 (if ((sc26 3 0) - (sc26 2 0)) ≤ (3 : Int32) then
  some (2 : Int32)
  else
  some (4 : Int32)) (fun (v28 : Int32) =>
  q_lt (u1 sc26 4 v28) fun sn30 =>
  some (sn30)))
  else none
  else
  q_lt (u1 sn11 4 (1 : Int32)) fun sn32 =>
  q_b1 (fX6_readLetters sn32) fun sc33 =>
  some (sc33))
  else none
  else
  q_lt (u1 sn11 4 (0 : Int32)) fun sn35 =>
  q_lt (u1 sn35 3 (sn35 2 0)) fun sn36 =>
  some (sn36)))
def fX6_readFirst (s0 : St) : Option (St) :=
  q_lt (u1 s0 3 (0 : Int32)) fun sn1 =>
  q_b1 (fX6_readNext sn1) fun sc2 =>
  some (sc2)
def fX6_tokenStart (s0 : St) : Option (Int32) :=
  some ((s0 2 0))
def fX4_refuse (s0 : St) (s1 : St) (p1 : Int32) : Option (Int32 × St) :=
  q_lt (u1 s0 2 p1) fun sn1 =>
  q_b1 (fX6_tokenStart s1) fun r2 =>
  q_lt (u1 sn1 3 r2) fun sn4 =>
  some ((0 : Int32), sn4)
def fX6_isSort (s0 : St) (p1 : Int32) : Option (Int32) :=
  (if (s0 4 0) = p1 then
  some ((1 : Int32))
  else
  some ((0 : Int32)))
def fX6_number_L7 (s0 : St) : Nat → Int32 → Int32 → Option (Int32)
  | 0, _, _ => none
  | n3 + 1, l1_1, l2_2 =>
  (if (s0 3 0) ≤ l2_2 then
  some l1_1
  else
  (if (s0 1 0) ≤ l2_2 then
  some l1_1
  else
  if inb l2_2 400 then
  q_lt ((l1_1 * (10 : Int32)) + ((s0 0 l2_2.toNatClampNeg) - (48 : Int32)) : Int32) fun x8 =>
  fX6_number_L7 s0 n3 x8 (l2_2 + (1 : Int32))
  else none))
def fX6_number (s0 : St) : Option (Int32) :=
  q_b1 (fX6_number_L7 s0 5000 (0 : Int32) (s0 2 0)) (fun (z4 : Int32) =>
  some (z4))
def fX4_takeNumber (s0 : St) (s1 : St) (p1 : Int32) (p2 : Int32) : Option (Int32 × St × St) :=
  q_b1 (fX6_isSort s1 (2 : Int32)) fun r1 =>
  (if r1 = 0 then
  q_b2 (fX4_refuse s0 s1 (1 : Int32)) fun r19 sc20 =>
  if isb r19 then
  some (r19, sc20, s1)
  else none
  else
  q_b1 (fX6_number s1) fun r4 =>
  q_lt (u1 s0 1 r4) fun sn6 =>
  (if (sn6 1 0) < p1 then
  q_b2 (fX4_refuse sn6 s1 (2 : Int32)) fun r8 sc9 =>
  if isb r8 then
  some (r8, sc9, s1)
  else none
  else
  (if (sn6 1 0) ≤ p2 then
  q_b1 (fX6_readNext s1) fun sc13 =>
  some ((1 : Int32), sn6, sc13)
  else
  q_b2 (fX4_refuse sn6 s1 (2 : Int32)) fun r15 sc16 =>
  if isb r15 then
  some (r15, sc16, s1)
  else none)))
def fX4_takeSign (s0 : St) (s1 : St) : Option (Int32 × St × St) :=
  q_b1 (fX6_isSort s1 (3 : Int32)) fun r1 =>
  (if r1 = 0 then
  q_b2 (fX4_refuse s0 s1 (1 : Int32)) fun r6 sc7 =>
  if isb r6 then
  some (r6, sc7, s1)
  else none
  else
  q_b1 (fX6_readNext s1) fun sc4 =>
  some ((1 : Int32), s0, sc4))
def fX4_readGrave (s0 : St) (s1 : St) (s2 : St) (p2 : Int32) : Option (Int32 × St × St × St) :=
  q_b3 (fX4_takeNumber s0 s1 (0 : Int32) (30 : Int32)) fun r1 sc2 sc3 =>
  (if r1 = 0 then
  some ((0 : Int32), sc2, sc3, s2)
  else
  if inb p2 5 then
  q_lt (uA s2 1 p2 (sc2 1 0)) fun sn7 =>
  q_b3 (fX4_takeNumber sc2 sc3 (0 : Int32) (9 : Int32)) fun r8 sc9 sc10 =>
  (if r8 = 0 then
  some ((0 : Int32), sc9, sc10, sn7)
  else
  if inb p2 5 then
  q_lt (uA sn7 2 p2 (sc9 1 0)) fun sn14 =>
  q_b3 (fX4_takeNumber sc9 sc10 (0 : Int32) (9 : Int32)) fun r15 sc16 sc17 =>
  (if r15 = 0 then
  some ((0 : Int32), sc16, sc17, sn14)
  else
  if inb p2 5 then
  q_lt (uA sn14 3 p2 (sc16 1 0)) fun sn21 =>
  q_b3 (fX4_takeNumber sc16 sc17 (0 : Int32) (15 : Int32)) fun r22 sc23 sc24 =>
  (if r22 = 0 then
  some ((0 : Int32), sc23, sc24, sn21)
  else
  if inb p2 5 then
  q_lt (uA sn21 4 p2 (sc23 1 0)) fun sn28 =>
  q_b3 (fX4_takeSign sc23 sc24) fun r29 sc30 sc31 =>
  if isb r29 then
  some (r29, sc30, sc31, sn28)
  else none
  else none)
  else none)
  else none)
  else none)
def fX4_readHorn (s0 : St) (s1 : St) (s2 : St) (p2 : Int32) : Option (Int32 × St × St × St) :=
  q_b3 (fX4_takeNumber s0 s1 (0 : Int32) (30 : Int32)) fun r1 sc2 sc3 =>
  (if r1 = 0 then
  some ((0 : Int32), sc2, sc3, s2)
  else
  if inb p2 4 then
  q_lt (uA s2 5 p2 (sc2 1 0)) fun sn7 =>
  q_b3 (fX4_takeNumber sc2 sc3 (1 : Int32) (40 : Int32)) fun r8 sc9 sc10 =>
  (if r8 = 0 then
  some ((0 : Int32), sc9, sc10, sn7)
  else
  if inb p2 4 then
  q_lt (uA sn7 6 p2 (sc9 1 0)) fun sn14 =>
  q_b3 (fX4_takeSign sc9 sc10) fun r15 sc16 sc17 =>
  if isb r15 then
  some (r15, sc16, sc17, sn14)
  else none
  else none)
  else none)
def fX5_isRow (p1 : Int32) : Option (Int32) :=
  (if p1 < 0 then
  some ((0 : Int32))
  else
  (if (8 : Int32) ≤ p1 then
  some ((0 : Int32))
  else
  some ((1 : Int32))))
def fX5_isLane (p1 : Int32) : Option (Int32) :=
  (if p1 < 0 then
  some ((0 : Int32))
  else
  (if (3 : Int32) ≤ p1 then
  some ((0 : Int32))
  else
  some ((1 : Int32))))
def fX5_isMissing (s0 : St) (p1 : Int32) : Option (Int32) :=
  q_b1 (fX5_isRow p1) fun r1 =>
  (if r1 = 0 then
  some ((1 : Int32))
  else
  if inb p1 8 then
  (if (s0 0 p1.toNatClampNeg) = (-1 : Int32) then
  some ((1 : Int32))
  else
  some ((0 : Int32)))
  else none)
def fX5_areOfOneLane (s0 : St) (p1 : Int32) (p2 : Int32) : Option (Int32) :=
  q_b1 (fX5_isRow p1) fun r1 =>
  (if r1 = 0 then
  some ((0 : Int32))
  else
  q_b1 (fX5_isRow p2) fun r4 =>
  (if r4 = 0 then
  some ((0 : Int32))
  else
  if inb p1 8 then
  if inb p2 8 then
  (if (s0 0 p1.toNatClampNeg) = (s0 0 p2.toNatClampNeg) then
  some ((1 : Int32))
  else
  some ((0 : Int32)))
  else none
  else none))
def fX5_holds (s0 : St) (p1 : Int32) (p2 : Int32) (p3 : Int32) : Option (Int32) :=
  q_b1 (fX5_isMissing s0 p1) fun r1 =>
  (if r1 = 0 then
  (if p2 < 0 then
  some ((0 : Int32))
  else
  (if p3 < 0 then
  some ((0 : Int32))
  else
  if inb p1 8 then
  (if (s0 1 p1.toNatClampNeg) < p2 then
  some ((0 : Int32))
  else
  if inb p1 8 then
  (if ((s0 1 p1.toNatClampNeg) - p2) < p3 then
  some ((0 : Int32))
  else
  some ((1 : Int32)))
  else none)
  else none))
  else
  some ((0 : Int32)))
def fX5_make_L44 (p1 : Int32) (p3 : Int32) : Nat → Int32 → St → Option (St)
  | 0, _, _ => none
  | n15 + 1, l4_13, sl14 =>
  (if p3 ≤ l4_13 then
  some sl14
  else
  if inb ((p1 * (40 : Int32)) + l4_13) 320 then
  q_lt (uA sl14 2 ((p1 * (40 : Int32)) + l4_13) (0 : Int32)) fun sn19 =>
  fX5_make_L44 p1 p3 n15 (l4_13 + (1 : Int32)) sn19
  else none)
def fX5_make (s0 : St) (p1 : Int32) (p2 : Int32) (p3 : Int32) : Option (St) :=
  q_b1 (fX5_isRow p1) fun r1 =>
  (if r1 = 0 then
  some (s0)
  else
  q_b1 (fX5_isLane p2) fun r4 =>
  (if r4 = 0 then
  some (s0)
  else
  (if p3 < 0 then
  some (s0)
  else
  (if p3 ≤ (40 : Int32) then
  if inb p1 8 then
  q_lt (uA s0 0 p1 p2) fun sn10 =>
  if inb p1 8 then
  q_lt (uA sn10 1 p1 p3) fun sn12 =>
  q_b1 (fX5_make_L44 p1 p3 5000 (0 : Int32) sn12) (fun (z16 : St) =>
  some (z16))
  else none
  else none
  else
  some (s0)))))
def fX5_lose (s0 : St) (p1 : Int32) : Option (Int32 × St) :=
  q_b1 (fX5_isMissing s0 p1) fun r1 =>
  (if r1 = 0 then
  if inb p1 8 then
  q_lt (uA s0 0 p1 (-1 : Int32)) fun sn5 =>
  if inb p1 8 then
  some ((sn5 1 p1.toNatClampNeg), sn5)
  else none
  else none
  else
  some ((0 : Int32), s0))
def fX5_item (s0 : St) (p1 : Int32) (p2 : Int32) : Option (Int32) :=
  q_b1 (fX5_holds s0 p1 p2 (1 : Int32)) fun r1 =>
  (if r1 = 0 then
  some ((0 : Int32))
  else
  if inb ((p1 * (40 : Int32)) + p2) 320 then
  some ((s0 2 ((p1 * (40 : Int32)) + p2).toNatClampNeg))
  else none)
def fX5_cutToLane (p0 : Int32) (p1 : Int32) : Option (Int32) :=
  (if p0 = 0 then
  some (p1.toInt8.toInt32)
  else
  (if p0 = (1 : Int32) then
  some (p1.toInt16.toInt32)
  else
  some (p1)))
def fX5_put (s0 : St) (p1 : Int32) (p2 : Int32) (p3 : Int32) : Option (Int32 × St) :=
  q_b1 (fX5_holds s0 p1 p2 (1 : Int32)) fun r1 =>
  (if r1 = 0 then
  some ((0 : Int32), s0)
  else
  if inb p1 8 then
  q_b1 (fX5_cutToLane (s0 0 p1.toNatClampNeg) p3) fun r5 =>
  if inb ((p1 * (40 : Int32)) + p2) 320 then
  q_lt (uA s0 2 ((p1 * (40 : Int32)) + p2) r5) fun sn8 =>
  some (r5, sn8)
  else none
  else none)
def fX5_carry (s0 : St) (p1 : Int32) (p2 : Int32) (p3 : Int32) (p4 : Int32) (p5 : Int32) : Option (St) :=
  q_b1 (fX5_holds s0 p1 p2 p5) fun r1 =>
  (if r1 = 0 then
  some (s0)
  else
  q_b1 (fX5_holds s0 p3 p4 p5) fun r4 =>
  (if r4 = 0 then
  some (s0)
  else
  if ¬ ((p1 * (40 : Int32)) + p2) < 0 then
  if ¬ ((p3 * (40 : Int32)) + p4) < 0 then
  if ¬ p5 < 0 then
  if ((p1 * (40 : Int32)) + p2).toNatClampNeg + p5.toNatClampNeg ≤ 320 then
  if ((p3 * (40 : Int32)) + p4).toNatClampNeg + p5.toNatClampNeg ≤ 320 then
  q_lt (u2 s0 2 (va_cpy (s0 2) (s0 2) ((p1 * (40 : Int32)) + p2).toNatClampNeg ((p3 * (40 : Int32)) + p4).toNatClampNeg p5.toNatClampNeg)) fun sn12 =>
  some (sn12)
  else none
  else none
  else none
  else none
  else none))
def fX5_present_L4 (s0 : St) : Nat → Int32 → Int32 → Option (Int32)
  | 0, _, _ => none
  | n3 + 1, l1_1, l2_2 =>
  (if (8 : Int32) ≤ l2_2 then
  some l1_1
  else
  if inb l2_2 8 then
  q_b1 (if (s0 0 l2_2.toNatClampNeg) = (-1 : Int32) then
  some l1_1
  else
  some (l1_1 + (1 : Int32))) (fun (v7 : Int32) =>
  fX5_present_L4 s0 n3 v7 (l2_2 + (1 : Int32)))
  else none)
def fX5_present (s0 : St) : Option (Int32) :=
  q_b1 (fX5_present_L4 s0 5000 (0 : Int32) (0 : Int32)) (fun (z4 : Int32) =>
  some (z4))
def fX6_length (s0 : St) : Option (Int32) :=
  some ((s0 1 0))
def fX6_hasRoomFor (s0 : St) (p1 : Int32) : Option (Int32) :=
  (if ((400 : Int32) - (s0 1 0)) < p1 then
  some ((0 : Int32))
  else
  some ((1 : Int32)))
def fX6_append_L5 (p1 : Int64) : Nat → Int32 → St → Option (St)
  | 0, _, _ => none
  | n4 + 1, l4_2, sl3 =>
  (if l4_2 < 0 then
  some sl3
  else
  (if (400 : Int32) ≤ (sl3 1 0) then
  some sl3
  else
  if inb (sl3 1 0) 400 then
  q_lt (uA sl3 0 (sl3 1 0) (vp_nar .byte ((((p1.toUInt64 >>> (((8 : Int32) * l4_2).toInt64.toUInt64 &&& Int64.toUInt64 63)).toInt64).toInt32).toInt8.toInt32))) fun sn9 =>
  q_lt (u1 sn9 1 ((sn9 1 0) + (1 : Int32))) fun sn10 =>
  fX6_append_L5 p1 n4 (l4_2 + (-1 : Int32)) sn10
  else none))
def fX6_append (s0 : St) (p1 : Int64) (p3 : Int32) : Option (St) :=
  q_lt (p3 - (1 : Int32) : Int32) fun x1 =>
  q_b1 (fX6_append_L5 p1 5000 x1 s0) (fun (z5 : St) =>
  some (z5))
def fX6_clear (s0 : St) : Option (St) :=
  q_lt (u1 s0 1 (0 : Int32)) fun sn1 =>
  some (sn1)
def fX7_finding (s0 : St) (p1 : Int32) : Option (Int64 × St) :=
  q_lt (u1 s0 13 p1) fun sn1 =>
  some (((-9000000000000000010 : Int64) - p1.toInt64), sn1)
def fX7_withoutFinding (s0 : St) (p1 : Int64) : Option (Int64 × St) :=
  q_lt (u1 s0 13 (0 : Int32)) fun sn1 =>
  some (p1, sn1)
def fX7_row (s0 : St) (s1 : St) (p1 : Int32) (p2 : Int32) (p3 : Int32) : Option (Int64 × St × St) :=
  q_b1 (fX5_isRow p1) fun r1 =>
  (if r1 = 0 then
  some ((-9000000000000000001 : Int64), s0, s1)
  else
  q_b1 (fX5_isLane p2) fun r4 =>
  (if r4 = 0 then
  some ((-9000000000000000001 : Int64), s0, s1)
  else
  (if p3 ≤ (40 : Int32) then
  (if 0 ≤ p3 then
  q_b1 (fX5_make s1 p1 p2 p3) fun sc9 =>
  q_b2 (fX7_withoutFinding s0 p3.toInt64) fun r11 sc12 =>
  some (r11, sc12, sc9)
  else
  q_b2 (fX7_finding s0 (4 : Int32)) fun r14 sc15 =>
  some (r14, sc15, s1))
  else
  some ((-9000000000000000001 : Int64), s0, s1))))
def fX7_set (s0 : St) (s1 : St) (p1 : Int32) (p2 : Int32) (p3 : Int32) : Option (Int64 × St × St) :=
  q_b1 (fX5_isRow p1) fun r1 =>
  (if r1 = 0 then
  some ((-9000000000000000001 : Int64), s0, s1)
  else
  q_b1 (fX5_isMissing s1 p1) fun r4 =>
  (if r4 = 0 then
  q_b1 (fX5_holds s1 p1 p2 (1 : Int32)) fun r7 =>
  (if r7 = 0 then
  q_b2 (fX7_finding s0 (2 : Int32)) fun r16 sc17 =>
  some (r16, sc17, s1)
  else
  q_b2 (fX5_put s1 p1 p2 p3) fun r10 sc11 =>
  q_b2 (fX7_withoutFinding s0 r10.toInt64) fun r13 sc14 =>
  some (r13, sc14, sc11))
  else
  q_b2 (fX7_finding s0 (1 : Int32)) fun r19 sc20 =>
  some (r19, sc20, s1)))
def fX7_copy (s0 : St) (s1 : St) (p1 : Int32) (p2 : Int32) (p3 : Int32) (p4 : Int32) (p5 : Int32) : Option (Int64 × St × St) :=
  q_b1 (fX5_isRow p1) fun r1 =>
  (if r1 = 0 then
  some ((-9000000000000000001 : Int64), s0, s1)
  else
  q_b1 (fX5_isRow p3) fun r4 =>
  (if r4 = 0 then
  some ((-9000000000000000001 : Int64), s0, s1)
  else
  q_b1 (fX5_isMissing s1 p1) fun r7 =>
  (if r7 = 0 then
  q_b1 (fX5_isMissing s1 p3) fun r13 =>
  (if r13 = 0 then
  q_b1 (fX5_areOfOneLane s1 p1 p3) fun r16 =>
  (if r16 = 0 then
  q_b2 (fX7_finding s0 (5 : Int32)) fun r36 sc37 =>
  some (r36, sc37, s1)
  else
  q_b1 (fX5_holds s1 p1 p2 p5) fun r19 =>
  (if r19 = 0 then
  q_b2 (fX7_finding s0 (2 : Int32)) fun r22 sc23 =>
  some (r22, sc23, s1)
  else
  q_b1 (fX5_holds s1 p3 p4 p5) fun r25 =>
  (if r25 = 0 then
  q_b2 (fX7_finding s0 (2 : Int32)) fun r33 sc34 =>
  some (r33, sc34, s1)
  else
  q_b1 (fX5_carry s1 p1 p2 p3 p4 p5) fun sc28 =>
  q_b2 (fX7_withoutFinding s0 p5.toInt64) fun r30 sc31 =>
  some (r30, sc31, sc28))))
  else
  q_b2 (fX7_finding s0 (1 : Int32)) fun r39 sc40 =>
  some (r39, sc40, s1))
  else
  q_b2 (fX7_finding s0 (1 : Int32)) fun r10 sc11 =>
  some (r10, sc11, s1))))
def fX7_drop (s0 : St) (s1 : St) (p1 : Int32) : Option (Int64 × St × St) :=
  q_b1 (fX5_isRow p1) fun r1 =>
  (if r1 = 0 then
  some ((-9000000000000000001 : Int64), s0, s1)
  else
  q_b1 (fX5_isMissing s1 p1) fun r4 =>
  (if r4 = 0 then
  q_b2 (fX5_lose s1 p1) fun r7 sc8 =>
  q_b2 (fX7_withoutFinding s0 r7.toInt64) fun r10 sc11 =>
  some (r10, sc11, sc8)
  else
  q_b2 (fX7_finding s0 (1 : Int32)) fun r13 sc14 =>
  some (r13, sc14, s1)))
def fX7_feed (s1 : St) (p1 : Int64) (p3 : Int32) : Option (Int64 × St) :=
  (if p3 < (1 : Int32) then
  some ((-9000000000000000001 : Int64), s1)
  else
  (if p3 ≤ (8 : Int32) then
  q_b1 (fX6_hasRoomFor s1 p3) fun r3 =>
  (if r3 = 0 then
  some ((-9000000000000000003 : Int64), s1)
  else
  q_b1 (fX6_append s1 p1 p3) fun sc6 =>
  q_b1 (fX6_length sc6) fun r8 =>
  some (r8.toInt64, sc6))
  else
  some ((-9000000000000000001 : Int64), s1)))
def fX7_fault (s0 : St) : Option (Int32) :=
  some ((s0 12 0))
def fX7_isMatter (p0 : Int32) : Option (Int32) :=
  (if p0 < (1 : Int32) then
  some ((0 : Int32))
  else
  (if (15 : Int32) < p0 then
  some ((0 : Int32))
  else
  some ((1 : Int32))))
def fX7_isHorns (p0 : Int32) : Option (Int32) :=
  (if p0 < 0 then
  some ((0 : Int32))
  else
  (if (15 : Int32) < p0 then
  some ((0 : Int32))
  else
  some ((1 : Int32))))
def fX7_isHour (p0 : Int32) : Option (Int32) :=
  (if p0 < 0 then
  some ((0 : Int32))
  else
  (if (12 : Int32) ≤ p0 then
  some ((0 : Int32))
  else
  some ((1 : Int32))))
def fX7_isAsked (p0 : Int32) (p1 : Int32) (p2 : Int32) : Option (Int32) :=
  q_b1 (fX7_isMatter p0) fun r1 =>
  (if r1 = 0 then
  some ((0 : Int32))
  else
  q_b1 (fX7_isHorns p1) fun r4 =>
  (if r4 = 0 then
  some ((0 : Int32))
  else
  q_b1 (fX7_isHour p2) fun r7 =>
  (if r7 = 0 then
  some ((0 : Int32))
  else
  some ((1 : Int32)))))
def fX7_ask (s0 : St) (s1 : St) (s2 : St) (p1 : Int32) (p2 : Int32) (p3 : Int32) (p4 : Int32) : Option (Int64 × St × St) :=
  (if (s0 10 0) = 0 then
  some ((-9000000000000000002 : Int64), s1, s2)
  else
  q_b1 (fX7_isAsked p1 p2 p3) fun r2 =>
  (if r2 = 0 then
  some ((-9000000000000000001 : Int64), s1, s2)
  else
  (if p4 < (1 : Int32) then
  some ((-9000000000000000001 : Int64), s1, s2)
  else
  (if p4 ≤ (999999 : Int32) then
  q_b1 (fX3_minding s1 p1 p2 (0 : Int32)) fun r7 =>
  q_b1 (fX3_drawFallen s1 r7 p3 p4) fun r9 =>
  q_b1 (fX3_addFruit s1 r9 (-1 : Int32)) fun sc11 =>
  q_b1 (fX0_keep s2 (0 : Int32) r9 (1 : Int32)) fun sc13 =>
  some (r9.toInt64, sc11, sc13)
  else
  some ((-9000000000000000001 : Int64), s1, s2)))))
def fX7_pick (s1 : St) (s2 : St) (p1 : Int32) (p2 : Int32) : Option (Int64 × St × St) :=
  q_b1 (fX3_isTree s1 p1) fun r1 =>
  (if r1 = 0 then
  some ((-9000000000000000001 : Int64), s1, s2)
  else
  (if p2 < (1 : Int32) then
  some ((-9000000000000000001 : Int64), s1, s2)
  else
  (if p2 ≤ (9 : Int32) then
  if inb p1 4 then
  (if p2 ≤ (s1 9 p1.toNatClampNeg) then
  q_b1 (fX3_addFruit s1 ((1 : Int32) <<< (p1 &&& 31)) (-p2)) fun sc8 =>
  q_b1 (fX0_keep s2 (1 : Int32) ((1 : Int32) <<< (p1 &&& 31)) p2) fun sc10 =>
  if inb p1 4 then
  some (((sc8 9 p1.toNatClampNeg).toInt64), sc8, sc10)
  else none
  else
  some ((-9000000000000000002 : Int64), s1, s2))
  else none
  else
  some ((-9000000000000000001 : Int64), s1, s2))))
def fX7_move (s1 : St) (s2 : St) (p1 : Int32) (p2 : Int32) : Option (Int64 × St × St) :=
  q_b1 (fX3_isGrave s1 p1) fun r1 =>
  (if r1 = 0 then
  some ((-9000000000000000001 : Int64), s1, s2)
  else
  (if p2 < 0 then
  some ((-9000000000000000001 : Int64), s1, s2)
  else
  (if p2 ≤ (30 : Int32) then
  if inb p1 5 then
  q_lt (s1 1 p1.toNatClampNeg : Int32) fun x7 =>
  if inb p1 5 then
  q_lt (uA s1 1 p1 p2) fun sn9 =>
  q_b1 (fX0_keep s2 (2 : Int32) p1 x7) fun sc10 =>
  some (x7.toInt64, sn9, sc10)
  else none
  else none
  else
  some ((-9000000000000000001 : Int64), s1, s2))))
def fX7_crack (s1 : St) (s2 : St) (p1 : Int32) : Option (Int64 × St × St) :=
  q_b1 (fX3_isHorn s1 p1) fun r1 =>
  (if r1 = 0 then
  some ((-9000000000000000001 : Int64), s1, s2)
  else
  q_b1 (fX3_isCracked s1 p1) fun r4 =>
  (if r4 = 0 then
  q_lt (u1 s1 13 ((s1 13 0) ||| ((1 : Int32) <<< (p1 &&& 31)))) fun sn7 =>
  q_b1 (fX0_keep s2 (3 : Int32) p1 (0 : Int32)) fun sc8 =>
  some ((1 : Int64), sn7, sc8)
  else
  some ((-9000000000000000002 : Int64), s1, s2)))
def fX7_undo (s1 : St) (s2 : St) : Option (Int64 × St × St) :=
  q_b1 (fX0_kept s1) fun r1 =>
  (if r1 = 0 then
  some ((-9000000000000000002 : Int64), s1, s2)
  else
  q_b2 (fX0_undoLatest s1 s2) fun sc4 sc5 =>
  q_b1 (fX0_kept sc4) fun r7 =>
  some (r7.toInt64, sc4, sc5))
def fX7_grave (s1 : St) (p1 : Int32) (p2 : Int32) : Option (Int64) :=
  q_b1 (fX3_isGrave s1 p1) fun r1 =>
  (if r1 = 0 then
  some ((-9000000000000000001 : Int64))
  else
  (if p2 = (0 : Int32) then
  if inb p1 5 then
  some (((s1 1 p1.toNatClampNeg).toInt64))
  else none
  else
  (if p2 = (1 : Int32) then
  if inb p1 5 then
  some (((s1 2 p1.toNatClampNeg).toInt64))
  else none
  else
  (if p2 = (2 : Int32) then
  if inb p1 5 then
  some (((s1 3 p1.toNatClampNeg).toInt64))
  else none
  else
  (if p2 = (3 : Int32) then
  if inb p1 5 then
  some (((s1 4 p1.toNatClampNeg).toInt64))
  else none
  else
  (if p2 = (4 : Int32) then
  q_b1 (fX3_treeOf s1 p1 (0 : Int32)) fun r13 =>
  some (r13.toInt64)
  else
  (if p2 = (5 : Int32) then
  q_b1 (fX3_hornsHeardBy s1 p1) fun r16 =>
  some (r16.toInt64)
  else
  some ((-9000000000000000001 : Int64)))))))))
def fX7_tree (s1 : St) (p1 : Int32) (p2 : Int32) : Option (Int64) :=
  q_b1 (fX3_isTree s1 p1) fun r1 =>
  (if r1 = 0 then
  some ((-9000000000000000001 : Int64))
  else
  (if p2 = (0 : Int32) then
  if inb p1 4 then
  some (((s1 8 p1.toNatClampNeg).toInt64))
  else none
  else
  (if p2 = (1 : Int32) then
  if inb p1 4 then
  some (((s1 9 p1.toNatClampNeg).toInt64))
  else none
  else
  (if p2 = (2 : Int32) then
  q_b1 (fX3_loose s1 p1) fun r9 =>
  some (r9.toInt64)
  else
  (if p2 = (3 : Int32) then
  q_b1 (fX3_gravesOf s1 p1) fun r12 =>
  some (r12.toInt64)
  else
  some ((-9000000000000000001 : Int64)))))))
def fX7_minds (s0 : St) (s1 : St) (p1 : Int32) (p2 : Int32) : Option (Int64) :=
  (if (s0 10 0) = 0 then
  some ((-9000000000000000002 : Int64))
  else
  q_b1 (fX7_isMatter p1) fun r2 =>
  (if r2 = 0 then
  some ((-9000000000000000001 : Int64))
  else
  q_b1 (fX7_isHorns p2) fun r5 =>
  (if r5 = 0 then
  some ((-9000000000000000001 : Int64))
  else
  q_b1 (fX3_minding s1 p1 p2 (0 : Int32)) fun r8 =>
  some (r8.toInt64))))
def fX7_isPart (p0 : Int32) : Option (Int32) :=
  (if p0 = 0 then
  some ((1 : Int32))
  else
  (if p0 = (1 : Int32) then
  some ((1 : Int32))
  else
  some ((0 : Int32))))
def fX7_odds (s0 : St) (s1 : St) (t2 : Lt) (p1 : Int32) (p2 : Int32) (p3 : Int32) (p4 : Int32) : Option (Int64 × Lt) :=
  (if (s0 10 0) = 0 then
  some ((-9000000000000000002 : Int64), t2)
  else
  q_b1 (fX7_isAsked p1 p2 p3) fun r2 =>
  (if r2 = 0 then
  some ((-9000000000000000001 : Int64), t2)
  else
  q_b1 (fX7_isPart p4) fun r5 =>
  (if r5 = 0 then
  some ((-9000000000000000001 : Int64), t2)
  else
  q_b1 (fX3_minding s1 p1 p2 (0 : Int32)) fun r8 =>
  q_b1 (fX3_passing s1 r8 p3 (0 : Int32)) fun r10 =>
  q_b1 (fX2_become t2 r10 (1000000000 : Int64)) fun tc12 =>
  q_b1 (fX2_part tc12 p4) fun r14 =>
  some (r14, tc12))))
def fX7_how (s0 : St) (s1 : St) (p1 : Int32) (p2 : Int32) (p3 : Int32) (p4 : Int32) : Option (Int64) :=
  (if (s0 10 0) = 0 then
  some ((-9000000000000000002 : Int64))
  else
  q_b1 (fX7_isMatter p1) fun r2 =>
  (if r2 = 0 then
  some ((-9000000000000000001 : Int64))
  else
  (if p2 < 0 then
  some ((-9000000000000000001 : Int64))
  else
  (if (5 : Int32) < p2 then
  some ((-9000000000000000001 : Int64))
  else
  q_b1 (fX7_isHour p3) fun r7 =>
  (if r7 = 0 then
  some ((-9000000000000000001 : Int64))
  else
  q_b1 (fX7_isHour p4) fun r10 =>
  (if r10 = 0 then
  some ((-9000000000000000001 : Int64))
  else
  (if p3 ≤ p4 then
  q_b1 (fX3_bestWay s1 p1 p2 p3 p4) fun r14 =>
  some (r14.toInt64)
  else
  some ((-9000000000000000001 : Int64)))))))))
def fX7_setObjection (s1 : St) (t2 : Lt) (p1 : Int32) (p2 : Int32) : Option (Lt) :=
  q_b1 (fX3_keptBy s1 p1 (1000000000 : Int64)) fun r1 =>
  q_b1 (fX3_kept r1 p2) fun r3 =>
  (if (lg_cmp r3 (1000000000 : Int64)) = 0 then
  q_b1 (fX2_become t2 (0 : Int64) (1 : Int64)) fun tc8 =>
  some (tc8)
  else
  q_b1 (fX2_become t2 ((1000000000 : Int64) - r1) ((1000000000 : Int64) - r3)) fun tc6 =>
  some (tc6))
def fX7_fell (s0 : St) (s1 : St) (t2 : Lt) (p1 : Int32) (p2 : Int32) (p3 : Int32) (p4 : Int32) (p5 : Int32) : Option (Int64 × Lt) :=
  (if (s0 10 0) = 0 then
  some ((-9000000000000000002 : Int64), t2)
  else
  q_b1 (fX7_isAsked p1 p2 p3) fun r2 =>
  (if r2 = 0 then
  some ((-9000000000000000001 : Int64), t2)
  else
  q_b1 (fX3_isTree s1 p4) fun r5 =>
  (if r5 = 0 then
  some ((-9000000000000000001 : Int64), t2)
  else
  (if p5 < 0 then
  some ((-9000000000000000001 : Int64), t2)
  else
  (if p5 ≤ (2 : Int32) then
  q_b1 (fX3_gravesOf s1 p4) fun r10 =>
  q_b1 (fX3_minding s1 p1 p2 (0 : Int32)) fun r12 =>
  (if p5 = (2 : Int32) then
  q_b1 (fX3_withTemper s1 (r10 &&& r12)) fun r21 =>
  some (r21.toInt64, t2)
  else
  q_b1 (fX3_blown s1 p4 p3) fun r15 =>
  q_b1 (fX7_setObjection s1 t2 (r10 &&& r12) r15) fun tc17 =>
  q_b1 (fX2_part tc17 p5) fun r19 =>
  some (r19, tc17))
  else
  some ((-9000000000000000001 : Int64), t2))))))
def fX7_picks (s0 : St) (s1 : St) (p1 : Int32) (p2 : Int32) (p3 : Int32) (p4 : Int32) : Option (Int64) :=
  (if (s0 10 0) = 0 then
  some ((-9000000000000000002 : Int64))
  else
  q_b1 (fX7_isAsked p1 p2 p3) fun r2 =>
  (if r2 = 0 then
  some ((-9000000000000000001 : Int64))
  else
  (if p4 < 0 then
  some ((-9000000000000000001 : Int64))
  else
  (if p4 ≤ (1000 : Int32) then
  q_b1 (fX3_fewestGone s1 p1 p2 p3 p4) fun r7 =>
  some (r7.toInt64)
  else
  some ((-9000000000000000001 : Int64))))))
def fX7_areMatters_L3 (p1 : Int32) (p2 : Int32) (p3 : Int32) (s1 : St) : Nat → Int32 → Option (Int32)
  | 0, _ => none
  | n2 + 1, l4_1 =>
  (if p3 ≤ l4_1 then
  some ((1 : Int32))
  else
  q_b1 (fX5_item s1 p1 (p2 + l4_1)) fun r4 =>
  q_b1 (fX7_isMatter r4) fun r6 =>
  (if r6 = 0 then
  some ((0 : Int32))
  else
  fX7_areMatters_L3 p1 p2 p3 s1 n2 (l4_1 + (1 : Int32))))
def fX7_areMatters (s1 : St) (p1 : Int32) (p2 : Int32) (p3 : Int32) : Option (Int32) :=
  fX7_areMatters_L3 p1 p2 p3 s1 5000 (0 : Int32)
def fX7_setCouncil_L9 (p1 : Int32) (p2 : Int32) (p3 : Int32) (p4 : Int32) (p5 : Int32) (s1 : St) (s2 : St) : Nat → Int64 → Int64 → Int32 → Option (Int64 × Int64)
  | 0, _, _, _ => none
  | n4 + 1, l6_1, l8_2, l10_3 =>
  (if p5 ≤ l10_3 then
  some (l6_1, l8_2)
  else
  q_b1 (fX5_item s1 p3 (p4 + l10_3)) fun r8 =>
  q_b1 (fX3_minding s2 r8 p1 (0 : Int32)) fun r10 =>
  q_b1 (fX3_passing s2 r10 (p2 + l10_3) (0 : Int32)) fun r12 =>
  q_lt (l8_2 * (1000000000 : Int64) : Int64) fun x14 =>
  fX7_setCouncil_L9 p1 p2 p3 p4 p5 s1 s2 n4 (l6_1 * r12) x14 (l10_3 + (1 : Int32)))
def fX7_setCouncil (s1 : St) (s2 : St) (t3 : Lt) (p1 : Int32) (p2 : Int32) (p3 : Int32) (p4 : Int32) (p5 : Int32) : Option (Lt) :=
  q_b2 (fX7_setCouncil_L9 p1 p2 p3 p4 p5 s1 s2 5000 (1 : Int64) (1 : Int64) (0 : Int32)) (fun (z5 : Int64) (z6 : Int64) =>
  q_b1 (fX2_become t3 z5 z6) fun tc15 =>
  some (tc15))
def fX7_council (s0 : St) (s1 : St) (s2 : St) (t3 : Lt) (p1 : Int32) (p2 : Int32) (p3 : Int32) (p4 : Int32) (p5 : Int32) (p6 : Int32) : Option (Int64 × St × Lt) :=
  (if (s0 10 0) = 0 then
  some ((-9000000000000000002 : Int64), s0, t3)
  else
  q_b1 (fX7_isHorns p1) fun r2 =>
  (if r2 = 0 then
  some ((-9000000000000000001 : Int64), s0, t3)
  else
  q_b1 (fX7_isHour p2) fun r5 =>
  (if r5 = 0 then
  some ((-9000000000000000001 : Int64), s0, t3)
  else
  q_b1 (fX5_isRow p3) fun r8 =>
  (if r8 = 0 then
  some ((-9000000000000000001 : Int64), s0, t3)
  else
  (if p5 < (1 : Int32) then
  some ((-9000000000000000001 : Int64), s0, t3)
  else
  (if (2 : Int32) < p5 then
  some ((-9000000000000000001 : Int64), s0, t3)
  else
  q_b1 (fX7_isHour ((p2 + p5) - (1 : Int32))) fun r13 =>
  (if r13 = 0 then
  some ((-9000000000000000001 : Int64), s0, t3)
  else
  q_b1 (fX7_isPart p6) fun r16 =>
  (if r16 = 0 then
  some ((-9000000000000000001 : Int64), s0, t3)
  else
  q_b1 (fX5_isMissing s1 p3) fun r19 =>
  (if r19 = 0 then
  q_b1 (fX5_holds s1 p3 p4 p5) fun r22 =>
  (if r22 = 0 then
  q_b2 (fX7_finding s0 (2 : Int32)) fun r35 sc36 =>
  some (r35, sc36, t3)
  else
  q_b1 (fX7_areMatters s1 p3 p4 p5) fun r25 =>
  (if r25 = 0 then
  some ((-9000000000000000001 : Int64), s0, t3)
  else
  q_b1 (fX7_setCouncil s1 s2 t3 p1 p2 p3 p4 p5) fun tc28 =>
  q_b1 (fX2_part tc28 p6) fun r30 =>
  q_b2 (fX7_withoutFinding s0 r30) fun r32 sc33 =>
  some (r32, sc33, tc28)))
  else
  q_b2 (fX7_finding s0 (1 : Int32)) fun r38 sc39 =>
  some (r38, sc39, t3))))))))))
def fX7_isImage (p0 : Int32) : Option (Int32) :=
  (if p0 < 0 then
  some ((0 : Int32))
  else
  (if (2 : Int32) ≤ p0 then
  some ((0 : Int32))
  else
  some ((1 : Int32))))
def fX7_kind (s1 : St) (p1 : Int32) : Option (Int64) :=
  q_b1 (fX3_isTree s1 p1) fun r1 =>
  (if r1 = 0 then
  some ((-9000000000000000001 : Int64))
  else
  if inb p1 4 then
  some (((s1 7 p1.toNatClampNeg).toInt64))
  else none)
def fX7_isSuch (p0 : Int32) (p1 : Int32) : Option (Int32) :=
  (if p1 = (0 : Int32) then
  some ((1 : Int32))
  else
  (if p1 = (1 : Int32) then
  (if p0 = (1 : Int32) then
  some ((1 : Int32))
  else
  (if p0 = (2 : Int32) then
  some ((1 : Int32))
  else
  (if p0 = (3 : Int32) then
  some ((1 : Int32))
  else
  some ((0 : Int32)))))
  else
  (if p1 = (2 : Int32) then
  (if p0 = (2 : Int32) then
  some ((1 : Int32))
  else
  (if p0 = (3 : Int32) then
  some ((1 : Int32))
  else
  some ((0 : Int32))))
  else
  (if p1 = (3 : Int32) then
  (if p0 = p1 then
  some ((1 : Int32))
  else
  some ((0 : Int32)))
  else
  (if p1 = (4 : Int32) then
  (if p0 = (4 : Int32) then
  some ((1 : Int32))
  else
  (if p0 = (5 : Int32) then
  some ((1 : Int32))
  else
  some ((0 : Int32))))
  else
  (if p0 = p1 then
  some ((1 : Int32))
  else
  some ((0 : Int32))))))))
def fX7_as (s0 : St) (s1 : St) (p1 : Int32) (p2 : Int32) : Option (Int64 × St) :=
  q_b1 (fX3_isTree s1 p1) fun r1 =>
  (if r1 = 0 then
  some ((-9000000000000000001 : Int64), s0)
  else
  (if p2 < 0 then
  some ((-9000000000000000001 : Int64), s0)
  else
  (if p2 ≤ (5 : Int32) then
  if inb p1 4 then
  q_b1 (fX7_isSuch (s1 7 p1.toNatClampNeg) p2) fun r7 =>
  (if r7 = 0 then
  q_b2 (fX7_finding s0 (3 : Int32)) fun r13 sc14 =>
  some (r13, sc14)
  else
  q_b2 (fX7_withoutFinding s0 p1.toInt64) fun r10 sc11 =>
  some (r10, sc11))
  else none
  else
  some ((-9000000000000000001 : Int64), s0))))
def fX7_shape (s1 : St) (s2 : St) (p1 : Int32) (p2 : Int32) : Option (Int64 × St) :=
  q_b1 (fX3_isTree s1 p1) fun r1 =>
  (if r1 = 0 then
  some ((-9000000000000000001 : Int64), s2)
  else
  (if p2 < 0 then
  some ((-9000000000000000001 : Int64), s2)
  else
  (if p2 ≤ (1 : Int32) then
  q_b1 (fX1_begin s2 s1 p1) fun sc6 =>
  (if p2 = 0 then
  q_b2 (fX1_size sc6) fun r12 sc13 =>
  some (r12.toInt64, sc13)
  else
  q_b2 (fX1_mark sc6) fun r9 sc10 =>
  some (r9.toInt64, sc10))
  else
  some ((-9000000000000000001 : Int64), s2))))
def fX7_trace (s1 : St) (p1 : Int32) : Option (Int32) :=
  q_b1 (fX1_traced s1 p1) fun r1 =>
  some (r1)
def fX7_count (s1 : St) (s2 : St) (s3 : St) (s4 : St) (p1 : Int32) : Option (Int64) :=
  (if p1 = (0 : Int32) then
  q_b1 (fX5_present s1) fun r2 =>
  some (r2.toInt64)
  else
  (if p1 = (1 : Int32) then
  some (((s2 10 0).toInt64))
  else
  (if p1 = (2 : Int32) then
  q_b1 (fJ6_bitCount_0f7a4 (s2 13 0)) fun r6 =>
  some ((((s2 11 0) - r6).toInt64))
  else
  (if p1 = (3 : Int32) then
  some (((s2 12 0).toInt64))
  else
  (if p1 = (4 : Int32) then
  q_b1 (fX0_kept s3) fun r10 =>
  some (r10.toInt64)
  else
  (if p1 = (5 : Int32) then
  q_b1 (fX3_fruitInAll s2) fun r13 =>
  some (r13.toInt64)
  else
  (if p1 = (6 : Int32) then
  q_b1 (fX6_length s4) fun r16 =>
  some (r16.toInt64)
  else
  some ((-9000000000000000001 : Int64)))))))))
def fX7_status (s0 : St) : Option (Int32) :=
  some ((s0 13 0))
def fX8_in (p0 : Int64) (p2 : Int64) (p4 : Int64) : Option (Int32) :=
  (if (lg_cmp p0 p2) < 0 then
  some ((0 : Int32))
  else
  (if 0 < (lg_cmp p0 p4) then
  some ((0 : Int32))
  else
  some ((1 : Int32))))
def fX8_finding (s0 : St) (p1 : Int32) : Option (Int64 × St) :=
  q_lt (u1 s0 1 p1) fun sn1 =>
  some (((-9000000000000000010 : Int64) - p1.toInt64), sn1)
def fX8_isRow (p0 : Int32) : Option (Int32) :=
  q_b1 (fX8_in p0.toInt64 (0 : Int64) (7 : Int64)) fun r1 =>
  if isb r1 then
  some (r1)
  else none
def fX8_row_L66 (p1 : Int32) : Nat → Int32 → St → Option (St)
  | 0, _, _ => none
  | n17 + 1, l4_15, sl16 =>
  (if (40 : Int32) ≤ l4_15 then
  some sl16
  else
  if inb (((40 : Int32) * p1) + l4_15) 320 then
  q_lt (uA sl16 4 (((40 : Int32) * p1) + l4_15) (0 : Int32)) fun sn21 =>
  fX8_row_L66 p1 n17 (l4_15 + (1 : Int32)) sn21
  else none)
def fX8_row (s0 : St) (p1 : Int32) (p2 : Int32) (p3 : Int32) : Option (Int64 × St) :=
  q_lt (u1 s0 0 (0 : Int32)) fun sn1 =>
  q_b1 (fX8_isRow p1) fun r2 =>
  (if r2 = 0 then
  some ((-9000000000000000001 : Int64), sn1)
  else
  q_b1 (fX8_in p2.toInt64 (0 : Int64) (2 : Int64)) fun r5 =>
  (if r5 = 0 then
  some ((-9000000000000000001 : Int64), sn1)
  else
  (if p3 ≤ (40 : Int32) then
  q_lt (u1 sn1 1 (0 : Int32)) fun sn9 =>
  (if 0 ≤ p3 then
  if inb p1 8 then
  q_lt (uA sn9 2 p1 p2) fun sn12 =>
  if inb p1 8 then
  q_lt (uA sn12 3 p1 p3) fun sn14 =>
  q_b1 (fX8_row_L66 p1 5000 (0 : Int32) sn14) (fun (z18 : St) =>
  some (p3.toInt64, z18))
  else none
  else none
  else
  q_b2 (fX8_finding sn9 (4 : Int32)) fun r22 sc23 =>
  some (r22, sc23))
  else
  some ((-9000000000000000001 : Int64), sn1))))
def fX8_set (s0 : St) (p1 : Int32) (p2 : Int32) (p3 : Int32) : Option (Int64 × St) :=
  q_lt (u1 s0 0 (0 : Int32)) fun sn1 =>
  q_b1 (fX8_isRow p1) fun r2 =>
  (if r2 = 0 then
  some ((-9000000000000000001 : Int64), sn1)
  else
  q_lt (u1 sn1 1 (0 : Int32)) fun sn5 =>
  if inb p1 8 then
  (if 0 ≤ (sn5 2 p1.toNatClampNeg) then
  if inb p1 8 then
  q_b1 (fX8_in p2.toInt64 (0 : Int64) (((sn5 3 p1.toNatClampNeg) - (1 : Int32)).toInt64)) fun r9 =>
  (if r9 = 0 then
  q_b2 (fX8_finding sn5 (2 : Int32)) fun r21 sc22 =>
  some (r21, sc22)
  else
  if inb p1 8 then
  q_b1 (if (sn5 2 p1.toNatClampNeg) = 0 then
  some p3.toInt8.toInt32
  else
  if inb p1 8 then
  (if (sn5 2 p1.toNatClampNeg) = (1 : Int32) then
  some p3.toInt16.toInt32
  else
  some p3)
  else none) (fun (v13 : Int32) =>
  if inb (((40 : Int32) * p1) + p2) 320 then
  q_lt (uA sn5 4 (((40 : Int32) * p1) + p2) v13) fun sn16 =>
  if inb (((40 : Int32) * p1) + p2) 320 then
  some (((sn16 4 (((40 : Int32) * p1) + p2).toNatClampNeg).toInt64), sn16)
  else none
  else none)
  else none)
  else none
  else
  q_b2 (fX8_finding sn5 (1 : Int32)) fun r24 sc25 =>
  some (r24, sc25))
  else none)
def fX8_copy_L144 (p1 : Int32) (p2 : Int32) (p3 : Int32) (p4 : Int32) (p5 : Int32) (v38 : Int32) : Nat → Int32 → St → Option (St)
  | 0, _, _ => none
  | n42 + 1, l7_40, sl41 =>
  (if p5 ≤ l7_40 then
  some sl41
  else
  q_b1 (if v38 = 0 then
  some ((p5 - (1 : Int32)) - l7_40)
  else
  some l7_40) (fun (v45 : Int32) =>
  if inb ((((40 : Int32) * p1) + p2) + v45) 320 then
  if inb ((((40 : Int32) * p3) + p4) + v45) 320 then
  q_lt (uA sl41 4 ((((40 : Int32) * p3) + p4) + v45) (sl41 4 ((((40 : Int32) * p1) + p2) + v45).toNatClampNeg)) fun sn49 =>
  fX8_copy_L144 p1 p2 p3 p4 p5 v38 n42 (l7_40 + (1 : Int32)) sn49
  else none
  else none))
def fX8_copy (s0 : St) (p1 : Int32) (p2 : Int32) (p3 : Int32) (p4 : Int32) (p5 : Int32) : Option (Int64 × St) :=
  q_lt (u1 s0 0 (0 : Int32)) fun sn1 =>
  q_b1 (fX8_isRow p1) fun r2 =>
  (if r2 = 0 then
  some ((-9000000000000000001 : Int64), sn1)
  else
  q_b1 (fX8_isRow p3) fun r5 =>
  (if r5 = 0 then
  some ((-9000000000000000001 : Int64), sn1)
  else
  q_lt (u1 sn1 1 (0 : Int32)) fun sn8 =>
  if inb p1 8 then
  (if (sn8 2 p1.toNatClampNeg) < 0 then
  q_b2 (fX8_finding sn8 (1 : Int32)) fun r11 sc12 =>
  some (r11, sc12)
  else
  if inb p3 8 then
  (if 0 ≤ (sn8 2 p3.toNatClampNeg) then
  if inb p1 8 then
  if inb p3 8 then
  (if (sn8 2 p1.toNatClampNeg) = (sn8 2 p3.toNatClampNeg) then
  (if p2 < 0 then
  q_b2 (fX8_finding sn8 (2 : Int32)) fun r20 sc21 =>
  some (r20, sc21)
  else
  (if p4 < 0 then
  q_b2 (fX8_finding sn8 (2 : Int32)) fun r24 sc25 =>
  some (r24, sc25)
  else
  (if p5 < 0 then
  q_b2 (fX8_finding sn8 (2 : Int32)) fun r28 sc29 =>
  some (r28, sc29)
  else
  if inb p1 8 then
  (if 0 < (lg_cmp (p2.toInt64 + p5.toInt64) ((sn8 3 p1.toNatClampNeg).toInt64)) then
  q_b2 (fX8_finding sn8 (2 : Int32)) fun r33 sc34 =>
  some (r33, sc34)
  else
  if inb p3 8 then
  (if (lg_cmp (p4.toInt64 + p5.toInt64) ((sn8 3 p3.toNatClampNeg).toInt64)) ≤ 0 then
  q_b1 (if p2 < p4 then
  some (0 : Int32)
  else
  some (1 : Int32)) (fun (v38 : Int32) =>
  q_b1 (fX8_copy_L144 p1 p2 p3 p4 p5 v38 5000 (0 : Int32) sn8) (fun (z43 : St) =>
  some (p5.toInt64, z43)))
  else
  q_b2 (fX8_finding sn8 (2 : Int32)) fun r52 sc53 =>
  some (r52, sc53))
  else none)
  else none)))
  else
  q_b2 (fX8_finding sn8 (5 : Int32)) fun r55 sc56 =>
  some (r55, sc56))
  else none
  else none
  else
  q_b2 (fX8_finding sn8 (1 : Int32)) fun r58 sc59 =>
  some (r58, sc59))
  else none)
  else none))
def fX8_drop (s0 : St) (p1 : Int32) : Option (Int64 × St) :=
  q_lt (u1 s0 0 (0 : Int32)) fun sn1 =>
  q_b1 (fX8_isRow p1) fun r2 =>
  (if r2 = 0 then
  some ((-9000000000000000001 : Int64), sn1)
  else
  q_lt (u1 sn1 1 (0 : Int32)) fun sn5 =>
  if inb p1 8 then
  (if 0 ≤ (sn5 2 p1.toNatClampNeg) then
  if inb p1 8 then
  q_lt (uA sn5 2 p1 (-1 : Int32)) fun sn9 =>
  if inb p1 8 then
  some (((sn9 3 p1.toNatClampNeg).toInt64), sn9)
  else none
  else none
  else
  q_b2 (fX8_finding sn5 (1 : Int32)) fun r11 sc12 =>
  some (r11, sc12))
  else none)
def fX8_feed_L42 (p1 : Int64) : Nat → Int32 → St → Option (St)
  | 0, _, _ => none
  | n9 + 1, l4_7, sl8 =>
  (if l4_7 < 0 then
  some sl8
  else
  if inb (sl8 11 0) 400 then
  q_lt (uA sl8 10 (sl8 11 0) (((p1 >>> (((8 : Int32) * l4_7).toInt64 &&& 63)) &&& (255 : Int64)).toInt32)) fun sn13 =>
  q_lt (u1 sn13 11 ((sn13 11 0) + (1 : Int32))) fun sn14 =>
  fX8_feed_L42 p1 n9 (l4_7 + (-1 : Int32)) sn14
  else none)
def fX8_feed (s0 : St) (p1 : Int64) (p3 : Int32) : Option (Int64 × St) :=
  q_lt (u1 s0 0 (0 : Int32)) fun sn1 =>
  q_b1 (fX8_in p3.toInt64 (1 : Int64) (8 : Int64)) fun r2 =>
  (if r2 = 0 then
  some ((-9000000000000000001 : Int64), sn1)
  else
  (if ((sn1 11 0) + p3) ≤ (400 : Int32) then
  q_lt (p3 - (1 : Int32) : Int32) fun x6 =>
  q_b1 (fX8_feed_L42 p1 5000 x6 sn1) (fun (z10 : St) =>
  some (((z10 11 0).toInt64), z10))
  else
  some ((-9000000000000000003 : Int64), sn1)))
def fX8_byteAt (s0 : St) (p1 : Int32) : Option (Int32) :=
  (if (s0 13 0) ≤ p1 then
  some ((-1000000 : Int32))
  else
  if inb p1 400 then
  some ((s0 10 p1.toNatClampNeg))
  else none)
def fX8_isLetter (p0 : Int32) : Option (Int32) :=
  (if p0 < (97 : Int32) then
  some ((0 : Int32))
  else
  (if (122 : Int32) < p0 then
  some ((0 : Int32))
  else
  some ((1 : Int32))))
def fX8_isFigure (p0 : Int32) : Option (Int32) :=
  (if p0 < (48 : Int32) then
  some ((0 : Int32))
  else
  (if (57 : Int32) < p0 then
  some ((0 : Int32))
  else
  some ((1 : Int32))))
def fX8_next_L0 : Nat → St → Option (St)
  | 0, _ => none
  | n2 + 1, sl1 =>
  q_b1 (fX8_byteAt sl1 (sl1 14 0)) fun r4 =>
  (if r4 = (32 : Int32) then
  q_lt (u1 sl1 14 ((sl1 14 0) + (1 : Int32))) fun sn7 =>
  fX8_next_L0 n2 sn7
  else
  q_b1 (fX8_byteAt sl1 (sl1 14 0)) fun r8 =>
  (if r8 = (10 : Int32) then
  q_lt (u1 sl1 14 ((sl1 14 0) + (1 : Int32))) fun sn11 =>
  fX8_next_L0 n2 sn11
  else
  some sl1))
def fX8_next_L119 : Nat → St → Option (St)
  | 0, _ => none
  | n31 + 1, sl30 =>
  q_b1 (fX8_byteAt sl30 (sl30 14 0)) fun r33 =>
  q_b1 (fX8_isFigure r33) fun r35 =>
  (if r35 = 0 then
  some sl30
  else
  q_lt (u1 sl30 14 ((sl30 14 0) + (1 : Int32))) fun sn38 =>
  fX8_next_L119 n31 sn38)
def fX8_next_L77 : Nat → St → Option (St)
  | 0, _ => none
  | n44 + 1, sl43 =>
  q_b1 (fX8_byteAt sl43 (sl43 14 0)) fun r46 =>
  q_b1 (fX8_isLetter r46) fun r48 =>
  (if r48 = 0 then
  some sl43
  else
  q_lt (u1 sl43 14 ((sl43 14 0) + (1 : Int32))) fun sn51 =>
  fX8_next_L77 n44 sn51)
def fX8_next (s0 : St) : Option (St) :=
  q_b1 (fX8_next_L0 5000 s0) (fun (z3 : St) =>
  q_lt (u1 z3 16 (z3 14 0)) fun sn12 =>
  q_b1 (fX8_byteAt sn12 (sn12 14 0)) fun r13 =>
  q_b1 (if r13 = (-1000000 : Int32) then
  q_lt (u1 sn12 15 (1 : Int32)) fun sn53 =>
  some sn53
  else
  q_b1 (fX8_isLetter r13) fun r19 =>
  (if r19 = 0 then
  q_b1 (fX8_isFigure r13) fun r22 =>
  (if r22 = 0 then
  q_lt (u1 sn12 14 ((sn12 14 0) + (1 : Int32))) fun sn25 =>
  q_b1 (if r13 = (59 : Int32) then
  some (4 : Int32)
  else
  some (0 : Int32)) (fun (v26 : Int32) =>
  q_lt (u1 sn25 15 v26) fun sn28 =>
  some sn28)
  else
  q_b1 (fX8_next_L119 5000 sn12) (fun (z32 : St) =>
  q_b1 (if ((z32 14 0) - (z32 16 0)) ≤ (3 : Int32) then
  some (3 : Int32)
  else
  some (0 : Int32)) (fun (v39 : Int32) =>
  q_lt (u1 z32 15 v39) fun sn41 =>
  some sn41)))
  else
  q_b1 (fX8_next_L77 5000 sn12) (fun (z45 : St) =>
  q_lt (u1 z45 15 (2 : Int32)) fun sn52 =>
  some sn52))) (fun (sj15 : St) =>
  q_lt (u1 sj15 17 (sj15 14 0)) fun sn17 =>
  some (sn17)))
def fX8_begin (s0 : St) : Option (St) :=
  q_lt (u1 s0 13 (s0 11 0)) fun sn1 =>
  q_lt (u1 sn1 11 (0 : Int32)) fun sn2 =>
  q_lt (u1 sn2 14 (0 : Int32)) fun sn3 =>
  q_lt (u1 sn3 18 (0 : Int32)) fun sn4 =>
  q_b1 (fX8_next sn4) fun sc5 =>
  some (sc5)
def fX8_bad (s0 : St) (p1 : Int32) : Option (St) :=
  (if (s0 18 0) = 0 then
  q_lt (u1 s0 18 p1) fun sn2 =>
  q_lt (u1 sn2 19 (sn2 16 0)) fun sn3 =>
  some (sn3)
  else
  some (s0))
def fX8_must (s0 : St) (p1 : Int32) : Option (St) :=
  q_b1 (if p1 = 0 then
  q_b1 (fX8_bad s0 (1 : Int32)) fun sc7 =>
  some sc7
  else
  some s0) (fun (sj1 : St) =>
  (if (sj1 18 0) = 0 then
  q_b1 (fX8_next sj1) fun sc4 =>
  some (sc4)
  else
  some (sj1)))
def fX8_name_L7 (s0 : St) : Nat → Int64 → Int32 → Option (Int64)
  | 0, _, _ => none
  | n3 + 1, l1_1, l3_2 =>
  (if (s0 17 0) ≤ l3_2 then
  some l1_1
  else
  (if (s0 15 0) = (2 : Int32) then
  (if (8 : Int32) ≤ ((s0 17 0) - (s0 16 0)) then
  some l1_1
  else
  if inb l3_2 400 then
  q_lt ((l1_1 <<< ((8 : Int32).toInt64 &&& 63)) ||| ((s0 10 l3_2.toNatClampNeg).toInt64) : Int64) fun x9 =>
  fX8_name_L7 s0 n3 x9 (l3_2 + (1 : Int32))
  else none)
  else
  some l1_1))
def fX8_name (s0 : St) : Option (Int64) :=
  q_b1 (fX8_name_L7 s0 5000 (0 : Int64) (s0 16 0)) (fun (z4 : Int64) =>
  (if (s0 18 0) = 0 then
  some (z4)
  else
  some ((0 : Int64))))
def fX8_figures_L7 (s0 : St) : Nat → Int32 → Int32 → Option (Int32)
  | 0, _, _ => none
  | n3 + 1, l1_1, l2_2 =>
  (if (s0 17 0) ≤ l2_2 then
  some l1_1
  else
  (if (s0 15 0) = (3 : Int32) then
  if inb l2_2 400 then
  q_lt ((((10 : Int32) * l1_1) + (s0 10 l2_2.toNatClampNeg)) - (48 : Int32) : Int32) fun x8 =>
  fX8_figures_L7 s0 n3 x8 (l2_2 + (1 : Int32))
  else none
  else
  some l1_1))
def fX8_figures (s0 : St) : Option (Int32) :=
  q_b1 (fX8_figures_L7 s0 5000 (0 : Int32) (s0 16 0)) (fun (z4 : Int32) =>
  some (z4))
def fX8_number (s0 : St) (p1 : Int32) (p2 : Int32) : Option (Int32 × St) :=
  (if (s0 18 0) ≤ 0 then
  q_b1 (fX8_figures s0) fun r2 =>
  q_b1 (if (s0 15 0) = (3 : Int32) then
  q_b1 (fX8_in r2.toInt64 p1.toInt64 p2.toInt64) fun r12 =>
  (if r12 = 0 then
  q_b1 (fX8_bad s0 (2 : Int32)) fun sc15 =>
  some sc15
  else
  some s0)
  else
  some s0) (fun (sj4 : St) =>
  q_b1 (if (sj4 15 0) = (3 : Int32) then
  some (1 : Int32)
  else
  some (0 : Int32)) (fun (v6 : Int32) =>
  q_b1 (fX8_must sj4 v6) fun sc8 =>
  some (r2, sc8)))
  else
  some ((0 : Int32), s0))
def fX8_kindBy (p0 : Int64) : Option (Int32) :=
  (if (lg_cmp p0 (1885692274 : Int64)) = 0 then
  some ((1 : Int32))
  else
  (if (lg_cmp p0 (7239028 : Int64)) = 0 then
  some ((2 : Int32))
  else
  (if (lg_cmp p0 (7299435 : Int64)) = 0 then
  some ((3 : Int32))
  else
  (if (lg_cmp p0 (6386536 : Int64)) = 0 then
  some ((4 : Int32))
  else
  (if (lg_cmp p0 (6711666 : Int64)) = 0 then
  some ((5 : Int32))
  else
  some ((-1000000 : Int32)))))))
def fX8_mustEnd (s0 : St) : Option (St) :=
  (if (s0 18 0) = 0 then
  q_b1 (if (s0 15 0) = (4 : Int32) then
  some (1 : Int32)
  else
  some (0 : Int32)) (fun (v2 : Int32) =>
  q_b1 (fX8_must s0 v2) fun sc4 =>
  some (sc4))
  else
  some (s0))
def fX8_begins (s0 : St) (p1 : Int32) (p2 : Int32) : Option (St) :=
  if inb p1 59 then
  q_b1 (if (s0 6 p1.toNatClampNeg) = p2 then
  q_b1 (fX8_bad s0 (3 : Int32)) fun sc7 =>
  some sc7
  else
  some s0) (fun (sj2 : St) =>
  q_b1 (fX8_must sj2 (1 : Int32)) fun sc4 =>
  some (sc4))
  else none
def fX8_readWinds_L22 : Nat → Int32 → St → Option (St)
  | 0, _, _ => none
  | n9 + 1, l1_7, sl8 =>
  (if (12 : Int32) ≤ l1_7 then
  some sl8
  else
  q_b2 (fX8_number sl8 (0 : Int32) (3 : Int32)) fun r12 sc13 =>
  if inb ((3 : Int32) + l1_7) 59 then
  q_lt (uA sc13 6 ((3 : Int32) + l1_7) r12) fun sn16 =>
  fX8_readWinds_L22 n9 (l1_7 + (1 : Int32)) sn16
  else none)
def fX8_readWinds (s0 : St) : Option (St) :=
  q_b1 (fX8_name s0) fun r1 =>
  q_b1 (if (lg_cmp r1 (512869950579 : Int64)) = 0 then
  some (1 : Int32)
  else
  some (0 : Int32)) (fun (v3 : Int32) =>
  q_b1 (fX8_must s0 v3) fun sc5 =>
  q_b1 (fX8_readWinds_L22 5000 (0 : Int32) sc5) (fun (z10 : St) =>
  q_b1 (fX8_mustEnd z10) fun sc17 =>
  some (sc17)))
def fX8_readGrave (s0 : St) : Option (St) :=
  q_b1 (fX8_begins s0 (0 : Int32) (5 : Int32)) fun sc1 =>
  q_b2 (fX8_number sc1 (0 : Int32) (30 : Int32)) fun r3 sc4 =>
  q_b2 (fX8_number sc4 (0 : Int32) (9 : Int32)) fun r6 sc7 =>
  q_b2 (fX8_number sc7 (0 : Int32) (9 : Int32)) fun r9 sc10 =>
  q_b2 (fX8_number sc10 (0 : Int32) (15 : Int32)) fun r12 sc13 =>
  q_b1 (fX8_mustEnd sc13) fun sc15 =>
  (if (sc15 18 0) = 0 then
  if inb (0 : Int32) 59 then
  q_lt ((15 : Int32) + ((4 : Int32) * (sc15 6 (0 : Int32).toNatClampNeg)) : Int32) fun x19 =>
  if inb x19 59 then
  q_lt (uA sc15 6 x19 r3) fun sn21 =>
  if inb (x19 + (1 : Int32)) 59 then
  q_lt (uA sn21 6 (x19 + (1 : Int32)) r6) fun sn23 =>
  if inb (x19 + (2 : Int32)) 59 then
  q_lt (uA sn23 6 (x19 + (2 : Int32)) r9) fun sn25 =>
  if inb (x19 + (3 : Int32)) 59 then
  q_lt (uA sn25 6 (x19 + (3 : Int32)) r12) fun sn27 =>
  if inb (0 : Int32) 59 then
  if inb (0 : Int32) 59 then
  q_lt (uA sn27 6 (0 : Int32) ((sn27 6 (0 : Int32).toNatClampNeg) + (1 : Int32))) fun sn30 =>
  some (sn30)
  else none
  else none
  else none
  else none
  else none
  else none
  else none
  else
  some (sc15))
def fX8_readHorn (s0 : St) : Option (St) :=
  q_b1 (fX8_begins s0 (1 : Int32) (4 : Int32)) fun sc1 =>
  q_b2 (fX8_number sc1 (0 : Int32) (30 : Int32)) fun r3 sc4 =>
  q_b2 (fX8_number sc4 (1 : Int32) (40 : Int32)) fun r6 sc7 =>
  q_b1 (fX8_mustEnd sc7) fun sc9 =>
  (if (sc9 18 0) = 0 then
  if inb (1 : Int32) 59 then
  if inb ((35 : Int32) + ((3 : Int32) * (sc9 6 (1 : Int32).toNatClampNeg))) 59 then
  q_lt (uA sc9 6 ((35 : Int32) + ((3 : Int32) * (sc9 6 (1 : Int32).toNatClampNeg))) r3) fun sn14 =>
  if inb (1 : Int32) 59 then
  if inb (((35 : Int32) + ((3 : Int32) * (sn14 6 (1 : Int32).toNatClampNeg))) + (1 : Int32)) 59 then
  q_lt (uA sn14 6 (((35 : Int32) + ((3 : Int32) * (sn14 6 (1 : Int32).toNatClampNeg))) + (1 : Int32)) r6) fun sn17 =>
  if inb (1 : Int32) 59 then
  if inb (1 : Int32) 59 then
  q_lt (uA sn17 6 (1 : Int32) ((sn17 6 (1 : Int32).toNatClampNeg) + (1 : Int32))) fun sn20 =>
  some (sn20)
  else none
  else none
  else none
  else none
  else none
  else none
  else
  some (sc9))
def fX8_isTold_L4 (p1 : Int32) (s0 : St) : Nat → Int32 → Int32 → Option (Int32)
  | 0, _, _ => none
  | n3 + 1, l2_1, l3_2 =>
  if inb (2 : Int32) 59 then
  (if (s0 6 (2 : Int32).toNatClampNeg) ≤ l3_2 then
  some l2_1
  else
  q_b1 (if l2_1 = 0 then
  if inb (((47 : Int32) + ((3 : Int32) * l3_2)) + (1 : Int32)) 59 then
  (if (s0 6 (((47 : Int32) + ((3 : Int32) * l3_2)) + (1 : Int32)).toNatClampNeg) = p1 then
  some (1 : Int32)
  else
  some (0 : Int32))
  else none
  else
  some (1 : Int32)) (fun (v7 : Int32) =>
  fX8_isTold_L4 p1 s0 n3 v7 (l3_2 + (1 : Int32))))
  else none
def fX8_isTold (s0 : St) (p1 : Int32) : Option (Int32) :=
  q_b1 (fX8_isTold_L4 p1 s0 5000 (0 : Int32) (0 : Int32)) (fun (z4 : Int32) =>
  if isb z4 then
  some (z4)
  else none)
def fX8_readTree (s0 : St) : Option (St) :=
  q_b1 (fX8_begins s0 (2 : Int32) (4 : Int32)) fun sc1 =>
  q_b1 (fX8_name sc1) fun r3 =>
  q_b1 (fX8_kindBy r3) fun r5 =>
  q_b1 (if (sc1 18 0) = 0 then
  q_b1 (if r5 = (-1000000 : Int32) then
  some (0 : Int32)
  else
  some (1 : Int32)) (fun (v41 : Int32) =>
  q_b1 (fX8_must sc1 v41) fun sc43 =>
  some sc43)
  else
  some sc1) (fun (sj7 : St) =>
  q_b1 (if (sj7 18 0) = 0 then
  (if (sj7 15 0) = (3 : Int32) then
  q_b1 (fX8_figures sj7) fun r33 =>
  q_b1 (fX8_isTold sj7 r33) fun r35 =>
  (if r35 = 0 then
  some sj7
  else
  q_b1 (fX8_bad sj7 (2 : Int32)) fun sc38 =>
  some sc38)
  else
  some sj7)
  else
  some sj7) (fun (sj9 : St) =>
  q_b2 (fX8_number sj9 (0 : Int32) (30 : Int32)) fun r11 sc12 =>
  q_b2 (fX8_number sc12 (0 : Int32) (9 : Int32)) fun r14 sc15 =>
  q_b1 (fX8_mustEnd sc15) fun sc17 =>
  (if (sc17 18 0) = 0 then
  if inb (2 : Int32) 59 then
  q_lt ((47 : Int32) + ((3 : Int32) * (sc17 6 (2 : Int32).toNatClampNeg)) : Int32) fun x21 =>
  if inb x21 59 then
  q_lt (uA sc17 6 x21 r5) fun sn23 =>
  if inb (x21 + (1 : Int32)) 59 then
  q_lt (uA sn23 6 (x21 + (1 : Int32)) r11) fun sn25 =>
  if inb (x21 + (2 : Int32)) 59 then
  q_lt (uA sn25 6 (x21 + (2 : Int32)) r14) fun sn27 =>
  if inb (2 : Int32) 59 then
  if inb (2 : Int32) 59 then
  q_lt (uA sn27 6 (2 : Int32) ((sn27 6 (2 : Int32).toNatClampNeg) + (1 : Int32))) fun sn30 =>
  some (sn30)
  else none
  else none
  else none
  else none
  else none
  else none
  else
  some (sc17))))
def fX8_hill_L11 : Nat → Int32 → St → Option (St)
  | 0, _, _ => none
  | n6 + 1, l1_4, sl5 =>
  (if (59 : Int32) ≤ l1_4 then
  some sl5
  else
  if inb l1_4 59 then
  q_lt (uA sl5 6 l1_4 (0 : Int32)) fun sn10 =>
  fX8_hill_L11 n6 (l1_4 + (1 : Int32)) sn10
  else none)
def fX8_hill_L34 : Nat → St → Option (St)
  | 0, _ => none
  | n14 + 1, sl13 =>
  q_b1 (fX8_name sl13) fun r16 =>
  (if (lg_cmp r16 (444300621413 : Int64)) = 0 then
  q_b1 (fX8_readGrave sl13) fun sc19 =>
  fX8_hill_L34 n14 sc19
  else
  some sl13)
def fX8_hill_L52 : Nat → St → Option (St)
  | 0, _ => none
  | n22 + 1, sl21 =>
  q_b1 (fX8_name sl21) fun r24 =>
  (if (lg_cmp r24 (1752134254 : Int64)) = 0 then
  q_b1 (fX8_readHorn sl21) fun sc27 =>
  fX8_hill_L52 n22 sc27
  else
  some sl21)
def fX8_hill_L70 : Nat → St → Option (St)
  | 0, _ => none
  | n30 + 1, sl29 =>
  q_b1 (fX8_name sl29) fun r32 =>
  (if (lg_cmp r32 (1953654117 : Int64)) = 0 then
  q_b1 (fX8_readTree sl29) fun sc35 =>
  fX8_hill_L70 n30 sc35
  else
  some sl29)
def fX8_hill_L145 : Nat → Int32 → St → Option (St)
  | 0, _, _ => none
  | n44 + 1, l1_42, sl43 =>
  (if (59 : Int32) ≤ l1_42 then
  some sl43
  else
  if inb l1_42 59 then
  if inb l1_42 59 then
  q_lt (uA sl43 5 l1_42 (sl43 6 l1_42.toNatClampNeg)) fun sn49 =>
  fX8_hill_L145 n44 (l1_42 + (1 : Int32)) sn49
  else none
  else none)
def fX8_hill (s0 : St) : Option (Int64 × St) :=
  q_lt (u1 s0 0 (0 : Int32)) fun sn1 =>
  q_b1 (fX8_begin sn1) fun sc2 =>
  q_b1 (fX8_hill_L11 5000 (0 : Int32) sc2) (fun (z7 : St) =>
  q_b1 (fX8_readWinds z7) fun sc11 =>
  q_b1 (fX8_hill_L34 5000 sc11) (fun (z15 : St) =>
  q_b1 (fX8_hill_L52 5000 z15) (fun (z23 : St) =>
  q_b1 (fX8_hill_L70 5000 z23) (fun (z31 : St) =>
  q_b1 (if (z31 18 0) = 0 then
  (if (z31 15 0) = (1 : Int32) then
  some z31
  else
  q_b1 (fX8_bad z31 (1 : Int32)) fun sc54 =>
  some sc54)
  else
  some z31) (fun (sj37 : St) =>
  (if (sj37 18 0) ≤ 0 then
  q_lt (u1 sj37 7 (1 : Int32)) fun sn40 =>
  q_lt (u1 sn40 9 (0 : Int32)) fun sn41 =>
  q_b1 (fX8_hill_L145 5000 (0 : Int32) sn41) (fun (z45 : St) =>
  if inb (0 : Int32) 59 then
  some (((z45 5 (0 : Int32).toNatClampNeg).toInt64), z45)
  else none)
  else
  q_lt (u1 sj37 12 (sj37 18 0)) fun sn51 =>
  some (((-9000000000000000100 : Int64) - ((sn51 19 0).toInt64)), sn51)))))))
def fX8_fault (s0 : St) : Option (Int32 × St) :=
  q_lt (u1 s0 0 (0 : Int32)) fun sn1 =>
  some ((sn1 12 0), sn1)
def fX8_isGrave (s0 : St) (p1 : Int32) : Option (Int32) :=
  if inb (0 : Int32) 59 then
  q_b1 (fX8_in p1.toInt64 (0 : Int64) (((s0 5 (0 : Int32).toNatClampNeg) - (1 : Int32)).toInt64)) fun r2 =>
  if isb r2 then
  some (r2)
  else none
  else none
def fX8_isHorn (s0 : St) (p1 : Int32) : Option (Int32) :=
  if inb (1 : Int32) 59 then
  q_b1 (fX8_in p1.toInt64 (0 : Int64) (((s0 5 (1 : Int32).toNatClampNeg) - (1 : Int32)).toInt64)) fun r2 =>
  if isb r2 then
  some (r2)
  else none
  else none
def fX8_isTree (s0 : St) (p1 : Int32) : Option (Int32) :=
  if inb (2 : Int32) 59 then
  q_b1 (fX8_in p1.toInt64 (0 : Int64) (((s0 5 (2 : Int32).toNatClampNeg) - (1 : Int32)).toInt64)) fun r2 =>
  if isb r2 then
  some (r2)
  else none
  else none
def fX8_ofGrave (s0 : St) (p1 : Int32) (p2 : Int32) : Option (Int32) :=
  if inb (((15 : Int32) + ((4 : Int32) * p1)) + p2) 59 then
  some ((s0 5 (((15 : Int32) + ((4 : Int32) * p1)) + p2).toNatClampNeg))
  else none
def fX8_placeOf (s0 : St) (p1 : Int32) : Option (Int32) :=
  if inb (((47 : Int32) + ((3 : Int32) * p1)) + (1 : Int32)) 59 then
  some ((s0 5 (((47 : Int32) + ((3 : Int32) * p1)) + (1 : Int32)).toNatClampNeg))
  else none
def fX8_fruit (s0 : St) (p1 : Int32) : Option (Int32) :=
  if inb (((47 : Int32) + ((3 : Int32) * p1)) + (2 : Int32)) 59 then
  some ((s0 5 (((47 : Int32) + ((3 : Int32) * p1)) + (2 : Int32)).toNatClampNeg))
  else none
def fX8_loose (s0 : St) (p1 : Int32) : Option (Int32) :=
  if inb ((47 : Int32) + ((3 : Int32) * p1)) 59 then
  q_lt (s0 5 ((47 : Int32) + ((3 : Int32) * p1)).toNatClampNeg : Int32) fun x2 =>
  (if x2 = (1 : Int32) then
  some ((2 : Int32))
  else
  (if x2 = (4 : Int32) then
  some ((3 : Int32))
  else
  (if x2 = (5 : Int32) then
  some ((0 : Int32))
  else
  some ((1 : Int32)))))
  else none
def fX8_apart (p0 : Int32) (p1 : Int32) : Option (Int32) :=
  (if p1 ≤ p0 then
  some ((p0 - p1))
  else
  some ((p1 - p0)))
def fX8_heard_L4 (p1 : Int32) (s0 : St) : Nat → Int32 → Int32 → Option (Int32)
  | 0, _, _ => none
  | n3 + 1, l2_1, l3_2 =>
  if inb (1 : Int32) 59 then
  (if (s0 5 (1 : Int32).toNatClampNeg) ≤ l3_2 then
  some l2_1
  else
  q_lt ((35 : Int32) + ((3 : Int32) * l3_2) : Int32) fun x7 =>
  if inb (x7 + (1 : Int32)) 59 then
  if inb x7 59 then
  q_b1 (fX8_ofGrave s0 p1 (0 : Int32)) fun r10 =>
  q_b1 (fX8_apart (s0 5 x7.toNatClampNeg) r10) fun r12 =>
  q_b1 (fX8_ofGrave s0 p1 (1 : Int32)) fun r14 =>
  q_lt (((s0 5 (x7 + (1 : Int32)).toNatClampNeg) - r12) + r14 : Int32) fun x16 =>
  if inb (x7 + (2 : Int32)) 59 then
  q_b1 (if (s0 5 (x7 + (2 : Int32)).toNatClampNeg) = 0 then
  (if x16 < (10 : Int32) then
  some (0 : Int32)
  else
  some ((1 : Int32) <<< (l3_2 &&& 31)))
  else
  some (0 : Int32)) (fun (v18 : Int32) =>
  fX8_heard_L4 p1 s0 n3 (l2_1 ||| v18) (l3_2 + (1 : Int32)))
  else none
  else none
  else none)
  else none
def fX8_heard (s0 : St) (p1 : Int32) : Option (Int32) :=
  q_b1 (fX8_heard_L4 p1 s0 5000 (0 : Int32) (0 : Int32)) (fun (z4 : Int32) =>
  some (z4))
def fX8_itsTree_L6 (p1 : Int32) (p2 : Int32) (s0 : St) : Nat → Int32 → Int32 → Option (Int32)
  | 0, _, _ => none
  | n3 + 1, l3_1, l4_2 =>
  if inb (2 : Int32) 59 then
  (if (s0 5 (2 : Int32).toNatClampNeg) ≤ l4_2 then
  some l3_1
  else
  q_b1 (fX8_placeOf s0 l4_2) fun r7 =>
  q_b1 (fX8_ofGrave s0 p1 (0 : Int32)) fun r9 =>
  q_b1 (fX8_apart r7 r9) fun r11 =>
  q_b1 (fX8_fruit s0 l4_2) fun r13 =>
  q_b1 (if r13 ≤ 0 then
  some (0 : Int32)
  else
  (if ((p2 >>> (l4_2 &&& 31)) &&& (1 : Int32)) = 0 then
  (if (3 : Int32) < r11 then
  some (0 : Int32)
  else
  some (1 : Int32))
  else
  some (0 : Int32))) (fun (v15 : Int32) =>
  q_b1 (if v15 = 0 then
  some l3_1
  else
  (if l3_1 = (-1000000 : Int32) then
  some l4_2
  else
  q_b1 (fX8_placeOf s0 l3_1) fun r21 =>
  q_b1 (fX8_ofGrave s0 p1 (0 : Int32)) fun r23 =>
  q_b1 (fX8_apart r21 r23) fun r25 =>
  (if r25 ≤ r11 then
  some l3_1
  else
  some l4_2))) (fun (v17 : Int32) =>
  fX8_itsTree_L6 p1 p2 s0 n3 v17 (l4_2 + (1 : Int32)))))
  else none
def fX8_itsTree (s0 : St) (p1 : Int32) (p2 : Int32) : Option (Int32) :=
  q_b1 (fX8_itsTree_L6 p1 p2 s0 5000 (-1000000 : Int32) (0 : Int32)) (fun (z4 : Int32) =>
  some (z4))
def fX8_doesMind (s0 : St) (p1 : Int32) (p2 : Int32) (p3 : Int32) (p4 : Int32) : Option (Int32) :=
  q_b1 (fX8_heard s0 p1) fun r1 =>
  (if (r1 &&& p3) = 0 then
  some ((0 : Int32))
  else
  q_b1 (fX8_ofGrave s0 p1 (3 : Int32)) fun r4 =>
  (if (r4 &&& p2) = 0 then
  some ((0 : Int32))
  else
  q_b1 (fX8_itsTree s0 p1 p4) fun r7 =>
  (if r7 = (-1000000 : Int32) then
  some ((0 : Int32))
  else
  some ((1 : Int32)))))
def fX8_keep_L51 : Nat → Int32 → St → Option (St)
  | 0, _, _ => none
  | n5 + 1, l1_3, sl4 =>
  (if (59 : Int32) ≤ l1_3 then
  some sl4
  else
  if inb l1_3 59 then
  if inb (((59 : Int32) * (sl4 9 0)) + l1_3) 1416 then
  q_lt (uA sl4 8 (((59 : Int32) * (sl4 9 0)) + l1_3) (sl4 5 l1_3.toNatClampNeg)) fun sn10 =>
  fX8_keep_L51 n5 (l1_3 + (1 : Int32)) sn10
  else none
  else none)
def fX8_keep_L11 : Nat → Int32 → St → Option (St)
  | 0, _, _ => none
  | n15 + 1, l1_13, sl14 =>
  (if (1357 : Int32) ≤ l1_13 then
  some sl14
  else
  if inb (l1_13 + (59 : Int32)) 1416 then
  if inb l1_13 1416 then
  q_lt (uA sl14 8 l1_13 (sl14 8 (l1_13 + (59 : Int32)).toNatClampNeg)) fun sn20 =>
  fX8_keep_L11 n15 (l1_13 + (1 : Int32)) sn20
  else none
  else none)
def fX8_keep (s0 : St) : Option (St) :=
  q_b1 (if (s0 9 0) = (24 : Int32) then
  q_b1 (fX8_keep_L11 5000 (0 : Int32) s0) (fun (z16 : St) =>
  q_lt (u1 z16 9 ((z16 9 0) - (1 : Int32))) fun sn21 =>
  some sn21)
  else
  some s0) (fun (sj1 : St) =>
  q_b1 (fX8_keep_L51 5000 (0 : Int32) sj1) (fun (z6 : St) =>
  q_lt (u1 z6 9 ((z6 9 0) + (1 : Int32))) fun sn11 =>
  some (sn11)))
def fX8_draws (t0 : Lt) (p1 : Int32) : Option (Int32 × Lt) :=
  q_lt (uL t0 20 (((t0 20) * (16807 : Int64)) - ((t0 20) * (16807 : Int64)) / (2147483647 : Int64) * (2147483647 : Int64))) fun tn1 =>
  (if 0 ≤ (lg_cmp ((tn1 20) - (tn1 20) / (10 : Int64) * (10 : Int64)) p1.toInt64) then
  some ((0 : Int32), tn1)
  else
  some ((1 : Int32), tn1))
def fX8_isMatter (p0 : Int32) : Option (Int32) :=
  q_b1 (fX8_in p0.toInt64 (1 : Int64) (15 : Int64)) fun r1 =>
  if isb r1 then
  some (r1)
  else none
def fX8_areHorns (p0 : Int32) : Option (Int32) :=
  q_b1 (fX8_in p0.toInt64 (0 : Int64) (15 : Int64)) fun r1 =>
  if isb r1 then
  some (r1)
  else none
def fX8_isHour (p0 : Int32) : Option (Int32) :=
  q_b1 (fX8_in p0.toInt64 (0 : Int64) (11 : Int64)) fun r1 =>
  if isb r1 then
  some (r1)
  else none
def fX8_ask_L111 (p1 : Int32) (p2 : Int32) (sn1 : St) (l6_17 : Int32) : Nat → Int32 → Int32 → Lt → Option (Int32 × Lt)
  | 0, _, _, _ => none
  | n39 + 1, l7_36, l8_37, tl38 =>
  if inb (0 : Int32) 59 then
  (if (sn1 5 (0 : Int32).toNatClampNeg) ≤ l8_37 then
  some (l7_36, tl38)
  else
  q_b1 (fX8_doesMind sn1 l8_37 p1 p2 (0 : Int32)) fun r44 =>
  q_b2 (if r44 = 0 then
  some (l7_36, tl38)
  else
  q_b1 (fX8_itsTree sn1 l8_37 (0 : Int32)) fun r50 =>
  (if r50 = l6_17 then
  q_b1 (fX8_ofGrave sn1 l8_37 (2 : Int32)) fun r53 =>
  q_b2 (fX8_draws tl38 r53) fun r55 tc56 =>
  q_b1 (if r55 = 0 then
  (if l7_36 = 0 then
  some (0 : Int32)
  else
  some (1 : Int32))
  else
  some (1 : Int32)) (fun (v58 : Int32) =>
  some (v58, tc56))
  else
  some (l7_36, tl38))) (fun (v46 : Int32) (tj47 : Lt) =>
  fX8_ask_L111 p1 p2 sn1 l6_17 n39 v46 (l8_37 + (1 : Int32)) tj47))
  else none
def fX8_ask_L67 (p1 : Int32) (p2 : Int32) (p3 : Int32) (sn1 : St) : Nat → Int32 → Int32 → Lt → Option (Int32 × Lt)
  | 0, _, _, _ => none
  | n19 + 1, l5_16, l6_17, tl18 =>
  if inb (2 : Int32) 59 then
  (if (sn1 5 (2 : Int32).toNatClampNeg) ≤ l6_17 then
  some (l5_16, tl18)
  else
  q_b1 (fX8_fruit sn1 l6_17) fun r24 =>
  q_b2 (if r24 ≤ 0 then
  some (l5_16, tl18)
  else
  q_b1 (fX8_loose sn1 l6_17) fun r30 =>
  if inb ((3 : Int32) + p3) 59 then
  q_b2 (fX8_draws tl18 (r30 * (sn1 5 ((3 : Int32) + p3).toNatClampNeg))) fun r33 tc34 =>
  q_b2 (fX8_ask_L111 p1 p2 sn1 l6_17 5000 r33 (0 : Int32) tc34) (fun (z40 : Int32) (z41 : Lt) =>
  q_b1 (if z40 = 0 then
  some (0 : Int32)
  else
  some ((1 : Int32) <<< (l6_17 &&& 31))) (fun (v62 : Int32) =>
  some ((l5_16 ||| v62), z41)))
  else none) (fun (v26 : Int32) (tj27 : Lt) =>
  fX8_ask_L67 p1 p2 p3 sn1 n19 v26 (l6_17 + (1 : Int32)) tj27))
  else none
def fX8_ask_L209 (z20 : Int32) : Nat → Int32 → St → Option (St)
  | 0, _, _ => none
  | n69 + 1, l6_67, sl68 =>
  if inb (2 : Int32) 59 then
  (if (sl68 5 (2 : Int32).toNatClampNeg) ≤ l6_67 then
  some sl68
  else
  if inb (((47 : Int32) + ((3 : Int32) * l6_67)) + (2 : Int32)) 59 then
  if inb (((47 : Int32) + ((3 : Int32) * l6_67)) + (2 : Int32)) 59 then
  q_lt (uA sl68 5 (((47 : Int32) + ((3 : Int32) * l6_67)) + (2 : Int32)) ((sl68 5 (((47 : Int32) + ((3 : Int32) * l6_67)) + (2 : Int32)).toNatClampNeg) - ((z20 >>> (l6_67 &&& 31)) &&& (1 : Int32)))) fun sn75 =>
  fX8_ask_L209 z20 n69 (l6_67 + (1 : Int32)) sn75
  else none
  else none)
  else none
def fX8_ask (s0 : St) (t0 : Lt) (p1 : Int32) (p2 : Int32) (p3 : Int32) (p4 : Int32) : Option (Int64 × St × Lt) :=
  q_lt (u1 s0 0 (0 : Int32)) fun sn1 =>
  (if (sn1 7 0) = 0 then
  some ((-9000000000000000002 : Int64), sn1, t0)
  else
  q_b1 (fX8_isMatter p1) fun r3 =>
  (if r3 = 0 then
  some ((-9000000000000000001 : Int64), sn1, t0)
  else
  q_b1 (fX8_areHorns p2) fun r6 =>
  (if r6 = 0 then
  some ((-9000000000000000001 : Int64), sn1, t0)
  else
  q_b1 (fX8_isHour p3) fun r9 =>
  (if r9 = 0 then
  some ((-9000000000000000001 : Int64), sn1, t0)
  else
  q_b1 (fX8_in p4.toInt64 (1 : Int64) (999999 : Int64)) fun r12 =>
  (if r12 = 0 then
  some ((-9000000000000000001 : Int64), sn1, t0)
  else
  q_lt (uL t0 20 p4.toInt64) fun tn15 =>
  q_b2 (fX8_ask_L67 p1 p2 p3 sn1 5000 (0 : Int32) (0 : Int32) tn15) (fun (z20 : Int32) (z21 : Lt) =>
  q_b1 (fX8_keep sn1) fun sc65 =>
  q_b1 (fX8_ask_L209 z20 5000 (0 : Int32) sc65) (fun (z70 : St) =>
  some (z20.toInt64, z70, z21))))))))
def fX8_pick (s0 : St) (p1 : Int32) (p2 : Int32) : Option (Int64 × St) :=
  q_lt (u1 s0 0 (0 : Int32)) fun sn1 =>
  q_b1 (fX8_isTree sn1 p1) fun r2 =>
  (if r2 = 0 then
  some ((-9000000000000000001 : Int64), sn1)
  else
  q_b1 (fX8_in p2.toInt64 (1 : Int64) (9 : Int64)) fun r5 =>
  (if r5 = 0 then
  some ((-9000000000000000001 : Int64), sn1)
  else
  q_b1 (fX8_fruit sn1 p1) fun r8 =>
  (if p2 ≤ r8 then
  q_b1 (fX8_keep sn1) fun sc11 =>
  if inb (((47 : Int32) + ((3 : Int32) * p1)) + (2 : Int32)) 59 then
  if inb (((47 : Int32) + ((3 : Int32) * p1)) + (2 : Int32)) 59 then
  q_lt (uA sc11 5 (((47 : Int32) + ((3 : Int32) * p1)) + (2 : Int32)) ((sc11 5 (((47 : Int32) + ((3 : Int32) * p1)) + (2 : Int32)).toNatClampNeg) - p2)) fun sn15 =>
  q_b1 (fX8_fruit sn15 p1) fun r16 =>
  some (r16.toInt64, sn15)
  else none
  else none
  else
  some ((-9000000000000000002 : Int64), sn1))))
def fX8_move (s0 : St) (p1 : Int32) (p2 : Int32) : Option (Int64 × St) :=
  q_lt (u1 s0 0 (0 : Int32)) fun sn1 =>
  q_b1 (fX8_isGrave sn1 p1) fun r2 =>
  (if r2 = 0 then
  some ((-9000000000000000001 : Int64), sn1)
  else
  q_b1 (fX8_in p2.toInt64 (0 : Int64) (30 : Int64)) fun r5 =>
  (if r5 = 0 then
  some ((-9000000000000000001 : Int64), sn1)
  else
  q_b1 (fX8_keep sn1) fun sc8 =>
  q_b1 (fX8_ofGrave sc8 p1 (0 : Int32)) fun r10 =>
  if inb ((15 : Int32) + ((4 : Int32) * p1)) 59 then
  q_lt (uA sc8 5 ((15 : Int32) + ((4 : Int32) * p1)) p2) fun sn13 =>
  some (r10.toInt64, sn13)
  else none))
def fX8_crack (s0 : St) (p1 : Int32) : Option (Int64 × St) :=
  q_lt (u1 s0 0 (0 : Int32)) fun sn1 =>
  q_b1 (fX8_isHorn sn1 p1) fun r2 =>
  (if r2 = 0 then
  some ((-9000000000000000001 : Int64), sn1)
  else
  if inb (((35 : Int32) + ((3 : Int32) * p1)) + (2 : Int32)) 59 then
  (if (sn1 5 (((35 : Int32) + ((3 : Int32) * p1)) + (2 : Int32)).toNatClampNeg) = (1 : Int32) then
  some ((-9000000000000000002 : Int64), sn1)
  else
  q_b1 (fX8_keep sn1) fun sc7 =>
  if inb (((35 : Int32) + ((3 : Int32) * p1)) + (2 : Int32)) 59 then
  q_lt (uA sc7 5 (((35 : Int32) + ((3 : Int32) * p1)) + (2 : Int32)) (1 : Int32)) fun sn10 =>
  some ((1 : Int64), sn10)
  else none)
  else none)
def fX8_undo_L28 : Nat → Int32 → St → Option (St)
  | 0, _, _ => none
  | n6 + 1, l1_4, sl5 =>
  (if (59 : Int32) ≤ l1_4 then
  some sl5
  else
  if inb (((59 : Int32) * (sl5 9 0)) + l1_4) 1416 then
  if inb l1_4 59 then
  q_lt (uA sl5 5 l1_4 (sl5 8 (((59 : Int32) * (sl5 9 0)) + l1_4).toNatClampNeg)) fun sn11 =>
  fX8_undo_L28 n6 (l1_4 + (1 : Int32)) sn11
  else none
  else none)
def fX8_undo (s0 : St) : Option (Int64 × St) :=
  q_lt (u1 s0 0 (0 : Int32)) fun sn1 =>
  (if (sn1 9 0) = 0 then
  some ((-9000000000000000002 : Int64), sn1)
  else
  q_lt (u1 sn1 9 ((sn1 9 0) - (1 : Int32))) fun sn3 =>
  q_b1 (fX8_undo_L28 5000 (0 : Int32) sn3) (fun (z7 : St) =>
  some (((z7 9 0).toInt64), z7)))
def fX8_grave (s0 : St) (p1 : Int32) (p2 : Int32) : Option (Int64 × St) :=
  q_lt (u1 s0 0 (0 : Int32)) fun sn1 =>
  q_b1 (fX8_isGrave sn1 p1) fun r2 =>
  (if r2 = 0 then
  some ((-9000000000000000001 : Int64), sn1)
  else
  q_b1 (fX8_in p2.toInt64 (0 : Int64) (5 : Int64)) fun r5 =>
  (if r5 = 0 then
  some ((-9000000000000000001 : Int64), sn1)
  else
  (if (4 : Int32) ≤ p2 then
  (if p2 = (4 : Int32) then
  q_b1 (fX8_itsTree sn1 p1 (0 : Int32)) fun r12 =>
  some (r12.toInt64, sn1)
  else
  q_b1 (fX8_heard sn1 p1) fun r10 =>
  some (r10.toInt64, sn1))
  else
  q_b1 (fX8_ofGrave sn1 p1 p2) fun r14 =>
  some (r14.toInt64, sn1))))
def fX8_tree_L34 (p1 : Int32) (sn1 : St) : Nat → Int32 → Int32 → Option (Int32)
  | 0, _, _ => none
  | n10 + 1, l3_8, l4_9 =>
  if inb (0 : Int32) 59 then
  (if (sn1 5 (0 : Int32).toNatClampNeg) ≤ l4_9 then
  some l3_8
  else
  q_b1 (fX8_itsTree sn1 l4_9 (0 : Int32)) fun r14 =>
  q_b1 (if r14 = p1 then
  some ((1 : Int32) <<< (l4_9 &&& 31))
  else
  some (0 : Int32)) (fun (v16 : Int32) =>
  fX8_tree_L34 p1 sn1 n10 (l3_8 ||| v16) (l4_9 + (1 : Int32))))
  else none
def fX8_tree (s0 : St) (p1 : Int32) (p2 : Int32) : Option (Int64 × St) :=
  q_lt (u1 s0 0 (0 : Int32)) fun sn1 =>
  q_b1 (fX8_isTree sn1 p1) fun r2 =>
  (if r2 = 0 then
  some ((-9000000000000000001 : Int64), sn1)
  else
  q_b1 (fX8_in p2.toInt64 (0 : Int64) (3 : Int64)) fun r5 =>
  (if r5 = 0 then
  some ((-9000000000000000001 : Int64), sn1)
  else
  q_b1 (fX8_tree_L34 p1 sn1 5000 (0 : Int32) (0 : Int32)) (fun (z11 : Int32) =>
  (if p2 = 0 then
  q_b1 (fX8_placeOf sn1 p1) fun r26 =>
  some (r26.toInt64, sn1)
  else
  (if p2 = (1 : Int32) then
  q_b1 (fX8_fruit sn1 p1) fun r24 =>
  some (r24.toInt64, sn1)
  else
  (if p2 = (2 : Int32) then
  q_b1 (fX8_loose sn1 p1) fun r22 =>
  some (r22.toInt64, sn1)
  else
  some (z11.toInt64, sn1)))))))
def fX8_minds_L39 (p1 : Int32) (p2 : Int32) (sn1 : St) : Nat → Int32 → Int32 → Option (Int32)
  | 0, _, _ => none
  | n11 + 1, l3_9, l4_10 =>
  if inb (0 : Int32) 59 then
  (if (sn1 5 (0 : Int32).toNatClampNeg) ≤ l4_10 then
  some l3_9
  else
  q_b1 (fX8_doesMind sn1 l4_10 p1 p2 (0 : Int32)) fun r15 =>
  q_b1 (if r15 = 0 then
  some (0 : Int32)
  else
  some ((1 : Int32) <<< (l4_10 &&& 31))) (fun (v17 : Int32) =>
  fX8_minds_L39 p1 p2 sn1 n11 (l3_9 ||| v17) (l4_10 + (1 : Int32))))
  else none
def fX8_minds (s0 : St) (p1 : Int32) (p2 : Int32) : Option (Int64 × St) :=
  q_lt (u1 s0 0 (0 : Int32)) fun sn1 =>
  (if (sn1 7 0) = 0 then
  some ((-9000000000000000002 : Int64), sn1)
  else
  q_b1 (fX8_isMatter p1) fun r3 =>
  (if r3 = 0 then
  some ((-9000000000000000001 : Int64), sn1)
  else
  q_b1 (fX8_areHorns p2) fun r6 =>
  (if r6 = 0 then
  some ((-9000000000000000001 : Int64), sn1)
  else
  q_b1 (fX8_minds_L39 p1 p2 sn1 5000 (0 : Int32) (0 : Int32)) (fun (z12 : Int32) =>
  some (z12.toInt64, sn1)))))
def fX8_times (t0 : Lt) (p1 : Int32) : Option (Lt) :=
  q_lt (uL t0 21 ((t0 21) * p1.toInt64)) fun tn1 =>
  q_lt (uL tn1 22 ((tn1 22) * (10 : Int64))) fun tn2 =>
  some (tn2)
def fX8_passes_L3 (p3 : Int32) (p4 : Int32) (s0 : St) : Nat → Int32 → Lt → Option (Lt)
  | 0, _, _ => none
  | n3 + 1, l5_1, tl2 =>
  if inb (2 : Int32) 59 then
  (if (s0 5 (2 : Int32).toNatClampNeg) ≤ l5_1 then
  some tl2
  else
  q_b1 (fX8_fruit s0 l5_1) fun r7 =>
  q_b1 (if r7 ≤ 0 then
  some tl2
  else
  (if ((p4 >>> (l5_1 &&& 31)) &&& (1 : Int32)) = 0 then
  q_b1 (fX8_loose s0 l5_1) fun r13 =>
  if inb ((3 : Int32) + p3) 59 then
  q_b1 (fX8_times tl2 ((10 : Int32) - (r13 * (s0 5 ((3 : Int32) + p3).toNatClampNeg)))) fun tc16 =>
  some tc16
  else none
  else
  some tl2)) (fun (tj9 : Lt) =>
  fX8_passes_L3 p3 p4 s0 n3 (l5_1 + (1 : Int32)) tj9))
  else none
def fX8_passes_L64 (p1 : Int32) (p2 : Int32) (p4 : Int32) (s0 : St) : Nat → Int32 → Lt → Option (Lt)
  | 0, _, _ => none
  | n20 + 1, l5_18, tl19 =>
  if inb (0 : Int32) 59 then
  (if (s0 5 (0 : Int32).toNatClampNeg) ≤ l5_18 then
  some tl19
  else
  q_b1 (fX8_doesMind s0 l5_18 p1 p2 p4) fun r24 =>
  q_b1 (if r24 = 0 then
  some tl19
  else
  q_b1 (fX8_ofGrave s0 l5_18 (2 : Int32)) fun r29 =>
  q_b1 (fX8_times tl19 ((10 : Int32) - r29)) fun tc31 =>
  some tc31) (fun (tj26 : Lt) =>
  fX8_passes_L64 p1 p2 p4 s0 n20 (l5_18 + (1 : Int32)) tj26))
  else none
def fX8_passes (s0 : St) (t0 : Lt) (p1 : Int32) (p2 : Int32) (p3 : Int32) (p4 : Int32) : Option (Lt) :=
  q_b1 (fX8_passes_L3 p3 p4 s0 5000 (0 : Int32) t0) (fun (z4 : Lt) =>
  q_b1 (fX8_passes_L64 p1 p2 p4 s0 5000 (0 : Int32) z4) (fun (z21 : Lt) =>
  some (z21)))
def fX8_layOdds (s0 : St) (t0 : Lt) (p1 : Int32) (p2 : Int32) (p3 : Int32) (p4 : Int32) : Option (Lt) :=
  q_lt (uL t0 21 (1 : Int64)) fun tn1 =>
  q_lt (uL tn1 22 (1 : Int64)) fun tn2 =>
  q_b1 (fX8_passes s0 tn2 p1 p2 p3 p4) fun tc3 =>
  some (tc3)
def fX8_partOf_L6 : Nat → Int64 → Int64 → Option (Int64)
  | 0, _, _ => none
  | n3 + 1, l5_1, l7_2 =>
  (if (lg_cmp l7_2 (0 : Int64)) = 0 then
  some l5_1
  else
  if ¬ l7_2 = 0 then
  q_lt (l5_1 - l5_1 / l7_2 * l7_2 : Int64) fun x7 =>
  fX8_partOf_L6 n3 l7_2 x7
  else none)
def fX8_partOf (p0 : Int64) (p2 : Int64) (p4 : Int32) : Option (Int64) :=
  q_b1 (fX8_partOf_L6 5000 p0 p2) (fun (z4 : Int64) =>
  q_b1 (if p4 = 0 then
  some p0
  else
  some p2) (fun (v8 : Int64) =>
  if ¬ z4 = 0 then
  some ((v8 / z4))
  else none))
def fX8_odds (s0 : St) (t0 : Lt) (p1 : Int32) (p2 : Int32) (p3 : Int32) (p4 : Int32) : Option (Int64 × St × Lt) :=
  q_lt (u1 s0 0 (0 : Int32)) fun sn1 =>
  (if (sn1 7 0) = 0 then
  some ((-9000000000000000002 : Int64), sn1, t0)
  else
  q_b1 (fX8_isMatter p1) fun r3 =>
  (if r3 = 0 then
  some ((-9000000000000000001 : Int64), sn1, t0)
  else
  q_b1 (fX8_areHorns p2) fun r6 =>
  (if r6 = 0 then
  some ((-9000000000000000001 : Int64), sn1, t0)
  else
  q_b1 (fX8_isHour p3) fun r9 =>
  (if r9 = 0 then
  some ((-9000000000000000001 : Int64), sn1, t0)
  else
  q_b1 (fX8_in p4.toInt64 (0 : Int64) (1 : Int64)) fun r12 =>
  (if r12 = 0 then
  some ((-9000000000000000001 : Int64), sn1, t0)
  else
  q_b1 (fX8_layOdds sn1 t0 p1 p2 p3 (0 : Int32)) fun tc15 =>
  q_b1 (fX8_partOf (tc15 21) (tc15 22) p4) fun r17 =>
  some (r17, sn1, tc15))))))
def fX8_hearers_L4 (p1 : Int32) (s0 : St) : Nat → Int32 → Int32 → Option (Int32)
  | 0, _, _ => none
  | n3 + 1, l2_1, l3_2 =>
  if inb (0 : Int32) 59 then
  (if (s0 5 (0 : Int32).toNatClampNeg) ≤ l3_2 then
  some l2_1
  else
  q_b1 (fX8_heard s0 l3_2) fun r7 =>
  q_b1 (if (r7 &&& p1) = 0 then
  some (0 : Int32)
  else
  some (1 : Int32)) (fun (v9 : Int32) =>
  fX8_hearers_L4 p1 s0 n3 (l2_1 + v9) (l3_2 + (1 : Int32))))
  else none
def fX8_hearers (s0 : St) (p1 : Int32) : Option (Int32) :=
  q_b1 (fX8_hearers_L4 p1 s0 5000 (0 : Int32) (0 : Int32)) (fun (z4 : Int32) =>
  some (z4))
def fX8_how_L83 (p1 : Int32) (p2 : Int32) (sn1 : St) (l10_19 : Int32) : Nat → Int32 → Int64 → Int64 → Int32 → Lt → Option (Int32 × Int64 × Int64 × Lt)
  | 0, _, _, _, _, _ => none
  | n30 + 1, l5_25, l6_26, l8_27, l11_28, tl29 =>
  (if (16 : Int32) ≤ l11_28 then
  some (l5_25, l6_26, l8_27, tl29)
  else
  q_b1 (fX8_layOdds sn1 tl29 p1 l11_28 l10_19 (0 : Int32)) fun tc36 =>
  q_b1 (fX8_hearers sn1 l11_28) fun r38 =>
  q_b1 (if r38 < p2 then
  some (0 : Int32)
  else
  (if l5_25 = (-1000000 : Int32) then
  some (1 : Int32)
  else
  (if (lg_cmp ((tc36 21) * l8_27) (l6_26 * (tc36 22))) ≤ 0 then
  some (0 : Int32)
  else
  some (1 : Int32)))) (fun (v40 : Int32) =>
  q_b1 (if v40 = 0 then
  some l5_25
  else
  some (((16 : Int32) * l10_19) + l11_28)) (fun (v42 : Int32) =>
  q_b1 (if v40 = 0 then
  some l6_26
  else
  some (tc36 21)) (fun (v44 : Int64) =>
  q_b1 (if v40 = 0 then
  some l8_27
  else
  some (tc36 22)) (fun (v46 : Int64) =>
  fX8_how_L83 p1 p2 sn1 l10_19 n30 v42 v44 v46 (l11_28 + (1 : Int32)) tc36)))))
def fX8_how_L73 (p1 : Int32) (p2 : Int32) (p4 : Int32) (sn1 : St) : Nat → Int32 → Int64 → Int64 → Int32 → Lt → Option (Int32 × Lt)
  | 0, _, _, _, _, _ => none
  | n21 + 1, l5_16, l6_17, l8_18, l10_19, tl20 =>
  (if p4 < l10_19 then
  some (l5_16, tl20)
  else
  q_b4 (fX8_how_L83 p1 p2 sn1 l10_19 5000 l5_16 l6_17 l8_18 (0 : Int32) tl20) (fun (z31 : Int32) (z32 : Int64) (z33 : Int64) (z34 : Lt) =>
  fX8_how_L73 p1 p2 p4 sn1 n21 z31 z32 z33 (l10_19 + (1 : Int32)) z34))
def fX8_how (s0 : St) (t0 : Lt) (p1 : Int32) (p2 : Int32) (p3 : Int32) (p4 : Int32) : Option (Int64 × St × Lt) :=
  q_lt (u1 s0 0 (0 : Int32)) fun sn1 =>
  (if (sn1 7 0) = 0 then
  some ((-9000000000000000002 : Int64), sn1, t0)
  else
  q_b1 (fX8_isMatter p1) fun r3 =>
  (if r3 = 0 then
  some ((-9000000000000000001 : Int64), sn1, t0)
  else
  q_b1 (fX8_in p2.toInt64 (0 : Int64) (5 : Int64)) fun r6 =>
  (if r6 = 0 then
  some ((-9000000000000000001 : Int64), sn1, t0)
  else
  q_b1 (fX8_isHour p3) fun r9 =>
  (if r9 = 0 then
  some ((-9000000000000000001 : Int64), sn1, t0)
  else
  q_b1 (fX8_isHour p4) fun r12 =>
  (if r12 = 0 then
  some ((-9000000000000000001 : Int64), sn1, t0)
  else
  (if p3 ≤ p4 then
  q_b2 (fX8_how_L73 p1 p2 p4 sn1 5000 (-1000000 : Int32) (0 : Int64) (1 : Int64) p3 t0) (fun (z22 : Int32) (z23 : Lt) =>
  some (z22.toInt64, sn1, z23))
  else
  some ((-9000000000000000001 : Int64), sn1, t0)))))))
def fX8_fell_L79 (p1 : Int32) (p2 : Int32) (p4 : Int32) (sn1 : St) : Nat → Int32 → Int32 → Lt → Option (Int32 × Lt)
  | 0, _, _, _ => none
  | n23 + 1, l6_20, l7_21, tl22 =>
  if inb (0 : Int32) 59 then
  (if (sn1 5 (0 : Int32).toNatClampNeg) ≤ l7_21 then
  some (l6_20, tl22)
  else
  q_b1 (fX8_doesMind sn1 l7_21 p1 p2 (0 : Int32)) fun r28 =>
  q_b2 (if r28 = 0 then
  some (l6_20, tl22)
  else
  q_b1 (fX8_itsTree sn1 l7_21 (0 : Int32)) fun r34 =>
  (if r34 = p4 then
  q_b1 (fX8_ofGrave sn1 l7_21 (2 : Int32)) fun r37 =>
  q_b1 (fX8_times tl22 ((10 : Int32) - r37)) fun tc39 =>
  q_b1 (fX8_ofGrave sn1 l7_21 (2 : Int32)) fun r41 =>
  q_b1 (if r41 ≤ 0 then
  some (0 : Int32)
  else
  some ((1 : Int32) <<< (l7_21 &&& 31))) (fun (v43 : Int32) =>
  some ((l6_20 ||| v43), tc39))
  else
  some (l6_20, tl22))) (fun (v30 : Int32) (tj31 : Lt) =>
  fX8_fell_L79 p1 p2 p4 sn1 n23 v30 (l7_21 + (1 : Int32)) tj31))
  else none
def fX8_fell (s0 : St) (t0 : Lt) (p1 : Int32) (p2 : Int32) (p3 : Int32) (p4 : Int32) (p5 : Int32) : Option (Int64 × St × Lt) :=
  q_lt (u1 s0 0 (0 : Int32)) fun sn1 =>
  (if (sn1 7 0) = 0 then
  some ((-9000000000000000002 : Int64), sn1, t0)
  else
  q_b1 (fX8_isMatter p1) fun r3 =>
  (if r3 = 0 then
  some ((-9000000000000000001 : Int64), sn1, t0)
  else
  q_b1 (fX8_areHorns p2) fun r6 =>
  (if r6 = 0 then
  some ((-9000000000000000001 : Int64), sn1, t0)
  else
  q_b1 (fX8_isHour p3) fun r9 =>
  (if r9 = 0 then
  some ((-9000000000000000001 : Int64), sn1, t0)
  else
  q_b1 (fX8_isTree sn1 p4) fun r12 =>
  (if r12 = 0 then
  some ((-9000000000000000001 : Int64), sn1, t0)
  else
  q_b1 (fX8_in p5.toInt64 (0 : Int64) (2 : Int64)) fun r15 =>
  (if r15 = 0 then
  some ((-9000000000000000001 : Int64), sn1, t0)
  else
  q_lt (uL t0 21 (1 : Int64)) fun tn18 =>
  q_lt (uL tn18 22 (1 : Int64)) fun tn19 =>
  q_b2 (fX8_fell_L79 p1 p2 p4 sn1 5000 (0 : Int32) (0 : Int32) tn19) (fun (z24 : Int32) (z25 : Lt) =>
  (if p5 = (2 : Int32) then
  some (z24.toInt64, sn1, z25)
  else
  q_lt ((z25 21) * (10 : Int64) : Int64) fun x47 =>
  q_b1 (fX8_fruit sn1 p4) fun r48 =>
  q_b1 (if r48 ≤ 0 then
  some (10 : Int32)
  else
  q_b1 (fX8_loose sn1 p4) fun r58 =>
  if inb ((3 : Int32) + p3) 59 then
  some ((10 : Int32) - (r58 * (sn1 5 ((3 : Int32) + p3).toNatClampNeg)))
  else none) (fun (v50 : Int32) =>
  q_b1 (fX8_times z25 v50) fun tc52 =>
  (if (lg_cmp (tc52 21) (tc52 22)) = 0 then
  some (p5.toInt64, sn1, tc52)
  else
  q_b1 (fX8_partOf ((tc52 22) - x47) ((tc52 22) - (tc52 21)) p5) fun r55 =>
  some (r55, sn1, tc52)))))))))))
def fX8_bits_L4 (p0 : Int32) : Nat → Int32 → Int32 → Option (Int32)
  | 0, _, _ => none
  | n3 + 1, l1_1, l2_2 =>
  (if (4 : Int32) ≤ l2_2 then
  some l1_1
  else
  q_lt (l1_1 + ((p0 >>> (l2_2 &&& 31)) &&& (1 : Int32)) : Int32) fun x6 =>
  fX8_bits_L4 p0 n3 x6 (l2_2 + (1 : Int32)))
def fX8_bits (p0 : Int32) : Option (Int32) :=
  q_b1 (fX8_bits_L4 p0 5000 (0 : Int32) (0 : Int32)) (fun (z4 : Int32) =>
  some (z4))
def fX8_picks_L61 (p1 : Int32) (p2 : Int32) (p3 : Int32) (p4 : Int32) (sn1 : St) : Nat → Int32 → Int32 → Lt → Option (Int32 × Lt)
  | 0, _, _, _ => none
  | n18 + 1, l5_15, l6_16, tl17 =>
  if inb (2 : Int32) 59 then
  (if ((1 : Int32) <<< ((sn1 5 (2 : Int32).toNatClampNeg) &&& 31)) ≤ l6_16 then
  some (l5_15, tl17)
  else
  q_b1 (fX8_layOdds sn1 tl17 p1 p2 p3 l6_16) fun tc23 =>
  q_b1 (if (lg_cmp ((tc23 21) * (1000 : Int64)) (p4.toInt64 * (tc23 22))) < 0 then
  some (0 : Int32)
  else
  some (1 : Int32)) (fun (v25 : Int32) =>
  q_b1 (if v25 = 0 then
  some l5_15
  else
  (if l5_15 = (-1000000 : Int32) then
  some l6_16
  else
  q_b1 (fX8_bits l6_16) fun r31 =>
  q_b1 (fX8_bits l5_15) fun r33 =>
  (if r33 ≤ r31 then
  some l5_15
  else
  some l6_16))) (fun (v27 : Int32) =>
  fX8_picks_L61 p1 p2 p3 p4 sn1 n18 v27 (l6_16 + (1 : Int32)) tc23)))
  else none
def fX8_picks (s0 : St) (t0 : Lt) (p1 : Int32) (p2 : Int32) (p3 : Int32) (p4 : Int32) : Option (Int64 × St × Lt) :=
  q_lt (u1 s0 0 (0 : Int32)) fun sn1 =>
  (if (sn1 7 0) = 0 then
  some ((-9000000000000000002 : Int64), sn1, t0)
  else
  q_b1 (fX8_isMatter p1) fun r3 =>
  (if r3 = 0 then
  some ((-9000000000000000001 : Int64), sn1, t0)
  else
  q_b1 (fX8_areHorns p2) fun r6 =>
  (if r6 = 0 then
  some ((-9000000000000000001 : Int64), sn1, t0)
  else
  q_b1 (fX8_isHour p3) fun r9 =>
  (if r9 = 0 then
  some ((-9000000000000000001 : Int64), sn1, t0)
  else
  q_b1 (fX8_in p4.toInt64 (0 : Int64) (1000 : Int64)) fun r12 =>
  (if r12 = 0 then
  some ((-9000000000000000001 : Int64), sn1, t0)
  else
  q_b2 (fX8_picks_L61 p1 p2 p3 p4 sn1 5000 (-1000000 : Int32) (0 : Int32) t0) (fun (z19 : Int32) (z20 : Lt) =>
  some (z19.toInt64, sn1, z20)))))))
def fX8_council_L177 (p1 : Int32) (p2 : Int32) (p3 : Int32) (p4 : Int32) (p5 : Int32) (sn30 : St) : Nat → Int32 → Lt → Option (Lt)
  | 0, _, _ => none
  | n35 + 1, l7_33, tl34 =>
  (if p5 ≤ l7_33 then
  some tl34
  else
  if inb ((((40 : Int32) * p3) + p4) + l7_33) 320 then
  q_b1 (fX8_passes sn30 tl34 (sn30 4 ((((40 : Int32) * p3) + p4) + l7_33).toNatClampNeg) p1 (p2 + l7_33) (0 : Int32)) fun tc39 =>
  fX8_council_L177 p1 p2 p3 p4 p5 sn30 n35 (l7_33 + (1 : Int32)) tc39
  else none)
def fX8_council_L121 (p1 : Int32) (p2 : Int32) (p3 : Int32) (p4 : Int32) (p5 : Int32) (p6 : Int32) (t0 : Lt) (sn1 : St) : Nat → Int32 → Option (Int64 × St × Lt)
  | 0, _ => none
  | n28 + 1, l7_27 =>
  (if p5 ≤ l7_27 then
  q_lt (u1 sn1 1 (0 : Int32)) fun sn30 =>
  q_lt (uL t0 21 (1 : Int64)) fun tn31 =>
  q_lt (uL tn31 22 (1 : Int64)) fun tn32 =>
  q_b1 (fX8_council_L177 p1 p2 p3 p4 p5 sn30 5000 (0 : Int32) tn32) (fun (z36 : Lt) =>
  q_b1 (fX8_partOf (z36 21) (z36 22) p6) fun r41 =>
  some (r41, sn30, z36))
  else
  if inb ((((40 : Int32) * p3) + p4) + l7_27) 320 then
  q_b1 (fX8_isMatter (sn1 4 ((((40 : Int32) * p3) + p4) + l7_27).toNatClampNeg)) fun r44 =>
  (if r44 = 0 then
  some ((-9000000000000000001 : Int64), sn1, t0)
  else
  fX8_council_L121 p1 p2 p3 p4 p5 p6 t0 sn1 n28 (l7_27 + (1 : Int32)))
  else none)
def fX8_council (s0 : St) (t0 : Lt) (p1 : Int32) (p2 : Int32) (p3 : Int32) (p4 : Int32) (p5 : Int32) (p6 : Int32) : Option (Int64 × St × Lt) :=
  q_lt (u1 s0 0 (0 : Int32)) fun sn1 =>
  (if (sn1 7 0) = 0 then
  some ((-9000000000000000002 : Int64), sn1, t0)
  else
  q_b1 (fX8_areHorns p1) fun r3 =>
  (if r3 = 0 then
  some ((-9000000000000000001 : Int64), sn1, t0)
  else
  q_b1 (fX8_isHour p2) fun r6 =>
  (if r6 = 0 then
  some ((-9000000000000000001 : Int64), sn1, t0)
  else
  q_b1 (fX8_isRow p3) fun r9 =>
  (if r9 = 0 then
  some ((-9000000000000000001 : Int64), sn1, t0)
  else
  q_b1 (fX8_in p5.toInt64 (1 : Int64) (2 : Int64)) fun r12 =>
  (if r12 = 0 then
  some ((-9000000000000000001 : Int64), sn1, t0)
  else
  (if (12 : Int32) < (p2 + p5) then
  some ((-9000000000000000001 : Int64), sn1, t0)
  else
  q_b1 (fX8_in p6.toInt64 (0 : Int64) (1 : Int64)) fun r16 =>
  (if r16 = 0 then
  some ((-9000000000000000001 : Int64), sn1, t0)
  else
  if inb p3 8 then
  (if 0 ≤ (sn1 2 p3.toNatClampNeg) then
  (if p4 < 0 then
  q_b2 (fX8_finding sn1 (2 : Int32)) fun r22 sc23 =>
  some (r22, sc23, t0)
  else
  if inb p3 8 then
  (if (lg_cmp (p4.toInt64 + p5.toInt64) ((sn1 3 p3.toNatClampNeg).toInt64)) ≤ 0 then
  fX8_council_L121 p1 p2 p3 p4 p5 p6 t0 sn1 5000 (0 : Int32)
  else
  q_b2 (fX8_finding sn1 (2 : Int32)) fun r47 sc48 =>
  some (r47, sc48, t0))
  else none)
  else
  q_b2 (fX8_finding sn1 (1 : Int32)) fun r50 sc51 =>
  some (r50, sc51, t0))
  else none)))))))
def fX8_image_L32 (p1 : Int32) : Nat → Int32 → St → Option (St)
  | 0, _, _ => none
  | n8 + 1, l2_6, sl7 =>
  (if (59 : Int32) ≤ l2_6 then
  some sl7
  else
  if inb l2_6 59 then
  if inb (((59 : Int32) * p1) + l2_6) 118 then
  q_lt (uA sl7 24 (((59 : Int32) * p1) + l2_6) (sl7 5 l2_6.toNatClampNeg)) fun sn13 =>
  fX8_image_L32 p1 n8 (l2_6 + (1 : Int32)) sn13
  else none
  else none)
def fX8_image (s0 : St) (p1 : Int32) : Option (Int64 × St) :=
  q_lt (u1 s0 0 (0 : Int32)) fun sn1 =>
  q_b1 (fX8_in p1.toInt64 (0 : Int64) (1 : Int64)) fun r2 =>
  (if r2 = 0 then
  some ((-9000000000000000001 : Int64), sn1)
  else
  (if (sn1 7 0) = 0 then
  some ((-9000000000000000002 : Int64), sn1)
  else
  q_b1 (fX8_image_L32 p1 5000 (0 : Int32) sn1) (fun (z9 : St) =>
  if inb p1 2 then
  q_lt (uA z9 23 p1 (vp_nar .boolean (1 : Int32))) fun sn15 =>
  some ((1 : Int64), sn15)
  else none)))
def fX8_restore_L34 (p1 : Int32) : Nat → Int32 → St → Option (St)
  | 0, _, _ => none
  | n9 + 1, l2_7, sl8 =>
  (if (59 : Int32) ≤ l2_7 then
  some sl8
  else
  if inb (((59 : Int32) * p1) + l2_7) 118 then
  if inb l2_7 59 then
  q_lt (uA sl8 5 l2_7 (sl8 24 (((59 : Int32) * p1) + l2_7).toNatClampNeg)) fun sn14 =>
  fX8_restore_L34 p1 n9 (l2_7 + (1 : Int32)) sn14
  else none
  else none)
def fX8_restore (s0 : St) (p1 : Int32) : Option (Int64 × St) :=
  q_lt (u1 s0 0 (0 : Int32)) fun sn1 =>
  q_b1 (fX8_in p1.toInt64 (0 : Int64) (1 : Int64)) fun r2 =>
  (if r2 = 0 then
  some ((-9000000000000000001 : Int64), sn1)
  else
  if inb p1 2 then
  (if (sn1 23 p1.toNatClampNeg) = 0 then
  some ((-9000000000000000002 : Int64), sn1)
  else
  q_b1 (fX8_restore_L34 p1 5000 (0 : Int32) sn1) (fun (z10 : St) =>
  q_lt (u1 z10 9 (0 : Int32)) fun sn15 =>
  some ((1 : Int64), sn15)))
  else none)
def fX8_kindOf (s0 : St) (p1 : Int32) : Option (Int32) :=
  if inb ((47 : Int32) + ((3 : Int32) * p1)) 59 then
  some ((s0 5 ((47 : Int32) + ((3 : Int32) * p1)).toNatClampNeg))
  else none
def fX8_isOf (p0 : Int32) (p1 : Int32) : Option (Int32) :=
  (if p1 = 0 then
  some ((1 : Int32))
  else
  (if p0 = p1 then
  some ((1 : Int32))
  else
  (if p1 = (1 : Int32) then
  (if p0 < (4 : Int32) then
  some ((1 : Int32))
  else
  (if p1 = (2 : Int32) then
  (if p0 = (3 : Int32) then
  some ((1 : Int32))
  else
  (if p1 = (4 : Int32) then
  (if p0 = (5 : Int32) then
  some ((1 : Int32))
  else
  some ((0 : Int32)))
  else
  some ((0 : Int32))))
  else
  (if p1 = (4 : Int32) then
  (if p0 = (5 : Int32) then
  some ((1 : Int32))
  else
  some ((0 : Int32)))
  else
  some ((0 : Int32)))))
  else
  (if p1 = (2 : Int32) then
  (if p0 = (3 : Int32) then
  some ((1 : Int32))
  else
  (if p1 = (4 : Int32) then
  (if p0 = (5 : Int32) then
  some ((1 : Int32))
  else
  some ((0 : Int32)))
  else
  some ((0 : Int32))))
  else
  (if p1 = (4 : Int32) then
  (if p0 = (5 : Int32) then
  some ((1 : Int32))
  else
  some ((0 : Int32)))
  else
  some ((0 : Int32)))))))
def fX8_kind (s0 : St) (p1 : Int32) : Option (Int64 × St) :=
  q_lt (u1 s0 0 (0 : Int32)) fun sn1 =>
  q_b1 (fX8_isTree sn1 p1) fun r2 =>
  (if r2 = 0 then
  some ((-9000000000000000001 : Int64), sn1)
  else
  q_b1 (fX8_kindOf sn1 p1) fun r5 =>
  some (r5.toInt64, sn1))
def fX8_as (s0 : St) (p1 : Int32) (p2 : Int32) : Option (Int64 × St) :=
  q_lt (u1 s0 0 (0 : Int32)) fun sn1 =>
  q_b1 (fX8_isTree sn1 p1) fun r2 =>
  (if r2 = 0 then
  some ((-9000000000000000001 : Int64), sn1)
  else
  q_b1 (fX8_in p2.toInt64 (0 : Int64) (5 : Int64)) fun r5 =>
  (if r5 = 0 then
  some ((-9000000000000000001 : Int64), sn1)
  else
  q_lt (u1 sn1 1 (0 : Int32)) fun sn8 =>
  q_b1 (fX8_kindOf sn8 p1) fun r9 =>
  q_b1 (fX8_isOf r9 p2) fun r11 =>
  (if r11 = 0 then
  q_b2 (fX8_finding sn8 (3 : Int32)) fun r14 sc15 =>
  some (r14, sc15)
  else
  some (p1.toInt64, sn8))))
def fX8_began (s0 : St) (p1 : Int32) : Option (St) :=
  (if (16 : Int32) ≤ (s0 26 0) then
  some (s0)
  else
  if inb (s0 26 0) 16 then
  q_lt (uA s0 25 (s0 26 0) p1) fun sn3 =>
  q_lt (u1 sn3 26 ((sn3 26 0) + (1 : Int32))) fun sn4 =>
  some (sn4)
  else none)
def fX8_plainSize (s0 : St) (p1 : Int32) : Option (Int32 × St) :=
  q_b1 (fX8_began s0 (10 : Int32)) fun sc1 =>
  q_b1 (fX8_fruit sc1 p1) fun r3 =>
  some (r3, sc1)
def fX8_markOf (s0 : St) (p1 : Int32) : Option (Int32 × St) :=
  q_b1 (fX8_kindOf s0 p1) fun r1 =>
  (if r1 < (4 : Int32) then
  q_b1 (if r1 = (3 : Int32) then
  q_b1 (fX8_began s0 (24 : Int32)) fun sc23 =>
  some sc23
  else
  some s0) (fun (sj4 : St) =>
  q_b1 (if r1 = (1 : Int32) then
  some sj4
  else
  q_b1 (fX8_began sj4 (22 : Int32)) fun sc20 =>
  some sc20) (fun (sj6 : St) =>
  q_b1 (fX8_began sj6 (21 : Int32)) fun sc8 =>
  q_b1 (fX8_began sc8 (20 : Int32)) fun sc10 =>
  q_b1 (fX8_placeOf sc10 p1) fun r12 =>
  q_b1 (if r1 = (1 : Int32) then
  some (0 : Int32)
  else
  some (1000 : Int32)) (fun (v14 : Int32) =>
  q_lt ((p1 + r12) - v14 : Int32) fun x16 =>
  (if r1 = (3 : Int32) then
  some (((2 : Int32) * x16), sc10)
  else
  some (x16, sc10)))))
  else
  q_b1 (fX8_began s0 (23 : Int32)) fun sc25 =>
  q_b1 (fX8_began sc25 (20 : Int32)) fun sc27 =>
  q_b1 (fX8_loose sc27 p1) fun r29 =>
  some ((p1 + ((10 : Int32) * r29)), sc27))
def fX8_sizeOf (s0 : St) (p1 : Int32) : Option (Int32 × St) :=
  q_b1 (fX8_kindOf s0 p1) fun r1 =>
  q_b1 (if r1 = (3 : Int32) then
  q_b1 (if r1 = (3 : Int32) then
  some (12 : Int32)
  else
  some (14 : Int32)) (fun (v20 : Int32) =>
  q_b1 (fX8_began s0 v20) fun sc22 =>
  some sc22)
  else
  (if r1 = (5 : Int32) then
  q_b1 (if r1 = (3 : Int32) then
  some (12 : Int32)
  else
  some (14 : Int32)) (fun (v26 : Int32) =>
  q_b1 (fX8_began s0 v26) fun sc28 =>
  some sc28)
  else
  some s0)) (fun (sj3 : St) =>
  q_b1 (if (4 : Int32) ≤ r1 then
  some (13 : Int32)
  else
  some (11 : Int32)) (fun (v5 : Int32) =>
  q_b1 (fX8_began sj3 v5) fun sc7 =>
  q_b2 (fX8_plainSize sc7 p1) fun r9 sc10 =>
  q_b2 (fX8_markOf sc10 p1) fun r12 sc13 =>
  (if r1 = (3 : Int32) then
  some (((-r9) - r12), sc13)
  else
  (if (4 : Int32) ≤ r1 then
  (if r1 = (4 : Int32) then
  some ((r9 - r12), sc13)
  else
  some (((2 : Int32) * (r9 - r12)), sc13))
  else
  some ((r9 + r12), sc13)))))
def fX8_shape (s0 : St) (p1 : Int32) (p2 : Int32) : Option (Int64 × St) :=
  q_lt (u1 s0 0 (0 : Int32)) fun sn1 =>
  q_b1 (fX8_isTree sn1 p1) fun r2 =>
  (if r2 = 0 then
  some ((-9000000000000000001 : Int64), sn1)
  else
  q_b1 (fX8_in p2.toInt64 (0 : Int64) (1 : Int64)) fun r5 =>
  (if r5 = 0 then
  some ((-9000000000000000001 : Int64), sn1)
  else
  q_lt (u1 sn1 26 (0 : Int32)) fun sn8 =>
  (if p2 = 0 then
  q_b2 (fX8_sizeOf sn8 p1) fun r13 sc14 =>
  some (r13.toInt64, sc14)
  else
  q_b2 (fX8_markOf sn8 p1) fun r10 sc11 =>
  some (r10.toInt64, sc11))))
def fX8_trace (s0 : St) (p1 : Int32) : Option (Int32 × St) :=
  q_lt (u1 s0 0 (0 : Int32)) fun sn1 =>
  q_b1 (fX8_in p1.toInt64 (0 : Int64) (((sn1 26 0) - (1 : Int32)).toInt64)) fun r2 =>
  (if r2 = 0 then
  some ((-1000000 : Int32), sn1)
  else
  if inb p1 16 then
  some ((sn1 25 p1.toNatClampNeg), sn1)
  else none)
def fX8_count_L54 (sn1 : St) : Nat → Int32 → Int32 → Option (Int32)
  | 0, _, _ => none
  | n5 + 1, l2_3, l3_4 =>
  (if (8 : Int32) ≤ l3_4 then
  some l2_3
  else
  if inb l3_4 8 then
  q_b1 (if (sn1 2 l3_4.toNatClampNeg) < 0 then
  some (0 : Int32)
  else
  some (1 : Int32)) (fun (v9 : Int32) =>
  fX8_count_L54 sn1 n5 (l2_3 + v9) (l3_4 + (1 : Int32)))
  else none)
def fX8_count_L96 (sn1 : St) : Nat → Int32 → Int32 → Option (Int32)
  | 0, _, _ => none
  | n17 + 1, l2_15, l3_16 =>
  if inb (1 : Int32) 59 then
  (if (sn1 5 (1 : Int32).toNatClampNeg) ≤ l3_16 then
  some l2_15
  else
  if inb (((35 : Int32) + ((3 : Int32) * l3_16)) + (2 : Int32)) 59 then
  q_lt (l2_15 + ((1 : Int32) - (sn1 5 (((35 : Int32) + ((3 : Int32) * l3_16)) + (2 : Int32)).toNatClampNeg)) : Int32) fun x22 =>
  fX8_count_L96 sn1 n17 x22 (l3_16 + (1 : Int32))
  else none)
  else none
def fX8_count_L149 (sn1 : St) : Nat → Int32 → Int32 → Option (Int32)
  | 0, _, _ => none
  | n29 + 1, l2_27, l3_28 =>
  if inb (2 : Int32) 59 then
  (if (sn1 5 (2 : Int32).toNatClampNeg) ≤ l3_28 then
  some l2_27
  else
  q_b1 (fX8_fruit sn1 l3_28) fun r33 =>
  fX8_count_L149 sn1 n29 (l2_27 + r33) (l3_28 + (1 : Int32)))
  else none
def fX8_count (s0 : St) (p1 : Int32) : Option (Int64 × St) :=
  q_lt (u1 s0 0 (0 : Int32)) fun sn1 =>
  (if p1 = (0 : Int32) then
  q_b1 (fX8_count_L54 sn1 5000 (0 : Int32) (0 : Int32)) (fun (z6 : Int32) =>
  some (z6.toInt64, sn1))
  else
  (if p1 = (1 : Int32) then
  if inb (0 : Int32) 59 then
  some (((sn1 5 (0 : Int32).toNatClampNeg).toInt64), sn1)
  else none
  else
  (if p1 = (2 : Int32) then
  q_b1 (fX8_count_L96 sn1 5000 (0 : Int32) (0 : Int32)) (fun (z18 : Int32) =>
  some (z18.toInt64, sn1))
  else
  (if p1 = (3 : Int32) then
  if inb (2 : Int32) 59 then
  some (((sn1 5 (2 : Int32).toNatClampNeg).toInt64), sn1)
  else none
  else
  (if p1 = (4 : Int32) then
  some (((sn1 9 0).toInt64), sn1)
  else
  (if p1 = (5 : Int32) then
  q_b1 (fX8_count_L149 sn1 5000 (0 : Int32) (0 : Int32)) (fun (z30 : Int32) =>
  some (z30.toInt64, sn1))
  else
  (if p1 = (6 : Int32) then
  some (((sn1 11 0).toInt64), sn1)
  else
  some ((-9000000000000000001 : Int64), sn1))))))))
def fX8_status (s0 : St) : Option (Int32 × St) :=
  q_lt (u1 s0 0 (0 : Int32)) fun sn1 =>
  some ((sn1 1 0), sn1)
