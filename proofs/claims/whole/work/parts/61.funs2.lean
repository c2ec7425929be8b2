/-! the same, for the methods that read the texts, and for images and hills -/
def fX6_isWord_L28 (s0 : St) (wi : Nat) : Nat → Int32 → Option (Int32)
  | 0, _ => none
  | n4 + 1, l2_3 =>
  (if (sN wi) ≤ l2_3 then
  some ((1 : Int32))
  else
  (if (s0 1 0) ≤ ((s0 2 0) + l2_3) then
  some ((1 : Int32))
  else
  if inb ((s0 2 0) + l2_3) 400 then
  if inb l2_3 (sLen.getD wi 0) then
  (if (s0 0 ((s0 2 0) + l2_3).toNatClampNeg) = (sC wi l2_3) then
  fX6_isWord_L28 s0 wi n4 (l2_3 + (1 : Int32))
  else
  some ((0 : Int32)))
  else none
  else none))
def fX6_isWord (s0 : St) (wi : Nat) : Option (Int32) :=
  (if (s0 4 0) = (1 : Int32) then
  (if ((s0 3 0) - (s0 2 0)) = (sN wi) then
  fX6_isWord_L28 s0 wi 5000 (0 : Int32)
  else
  some ((0 : Int32)))
  else
  some ((0 : Int32)))
def fX4_kindNamed (s1 : St) : Option (Int32) :=
  q_b1 (fX6_isWord s1 4) fun r1 =>
  (if r1 = 0 then
  q_b1 (fX6_isWord s1 5) fun r4 =>
  (if r4 = 0 then
  q_b1 (fX6_isWord s1 6) fun r7 =>
  (if r7 = 0 then
  q_b1 (fX6_isWord s1 7) fun r10 =>
  (if r10 = 0 then
  q_b1 (fX6_isWord s1 8) fun r13 =>
  (if r13 = 0 then
  some ((-1000000 : Int32))
  else
  some ((5 : Int32)))
  else
  some ((4 : Int32)))
  else
  some ((3 : Int32)))
  else
  some ((2 : Int32)))
  else
  some ((1 : Int32)))
def fX4_readWinds_L27 : Nat → Int32 → St → St → St → Option (Int32 × St × St × St)
  | 0, _, _, _, _ => none
  | n10 + 1, l2_6, sl7, sl8, sl9 =>
  (if (12 : Int32) ≤ l2_6 then
  q_b3 (fX4_takeSign sl7 sl8) fun r12 sc13 sc14 =>
  if isb r12 then
  some (r12, sc13, sc14, sl9)
  else none
  else
  q_b3 (fX4_takeNumber sl7 sl8 (0 : Int32) (3 : Int32)) fun r17 sc18 sc19 =>
  (if r17 = 0 then
  some ((0 : Int32), sc18, sc19, sl9)
  else
  if inb l2_6 12 then
  q_lt (uA sl9 0 l2_6 (sc18 1 0)) fun sn23 =>
  fX4_readWinds_L27 n10 (l2_6 + (1 : Int32)) sc18 sc19 sn23
  else none))
def fX4_readWinds (s0 : St) (s1 : St) (s2 : St) : Option (Int32 × St × St × St) :=
  q_b1 (fX6_isWord s1 0) fun r1 =>
  (if r1 = 0 then
  q_b2 (fX4_refuse s0 s1 (1 : Int32)) fun r24 sc25 =>
  if isb r24 then
  some (r24, sc25, s1, s2)
  else none
  else
  q_b1 (fX6_readNext s1) fun sc4 =>
  fX4_readWinds_L27 5000 (0 : Int32) s0 sc4 s2)
def fX4_readGraves_L2 : Nat → Int32 → St → St → St → Option (Int32 × St × St × St)
  | 0, _, _, _, _ => none
  | n5 + 1, l2_1, sl2, sl3, sl4 =>
  (if (5 : Int32) ≤ l2_1 then
  q_b1 (fX6_isWord sl3 1) fun r7 =>
  (if r7 = 0 then
  some ((1 : Int32), sl2, sl3, sl4)
  else
  q_b2 (fX4_refuse sl2 sl3 (3 : Int32)) fun r10 sc11 =>
  (if r10 = 0 then
  some ((0 : Int32), sc11, sl3, sl4)
  else
  some ((1 : Int32), sc11, sl3, sl4)))
  else
  q_b1 (fX6_isWord sl3 1) fun r14 =>
  (if r14 = 0 then
  q_b1 (fX6_isWord sl3 1) fun r17 =>
  (if r17 = 0 then
  some ((1 : Int32), sl2, sl3, sl4)
  else
  q_b2 (fX4_refuse sl2 sl3 (3 : Int32)) fun r20 sc21 =>
  (if r20 = 0 then
  some ((0 : Int32), sc21, sl3, sl4)
  else
  some ((1 : Int32), sc21, sl3, sl4)))
  else
  q_b1 (fX6_readNext sl3) fun sc24 =>
  q_b4 (fX4_readGrave sl2 sc24 sl4 l2_1) fun r26 sc27 sc28 sc29 =>
  (if r26 = 0 then
  some ((0 : Int32), sc27, sc28, sc29)
  else
  q_lt (u1 sc29 10 (l2_1 + (1 : Int32))) fun sn32 =>
  fX4_readGraves_L2 n5 (l2_1 + (1 : Int32)) sc27 sc28 sn32)))
def fX4_readGraves (s0 : St) (s1 : St) (s2 : St) : Option (Int32 × St × St × St) :=
  fX4_readGraves_L2 5000 (0 : Int32) s0 s1 s2
def fX4_readHorns_L2 : Nat → Int32 → St → St → St → Option (Int32 × St × St × St)
  | 0, _, _, _, _ => none
  | n5 + 1, l2_1, sl2, sl3, sl4 =>
  (if (4 : Int32) ≤ l2_1 then
  q_b1 (fX6_isWord sl3 2) fun r7 =>
  (if r7 = 0 then
  some ((1 : Int32), sl2, sl3, sl4)
  else
  q_b2 (fX4_refuse sl2 sl3 (3 : Int32)) fun r10 sc11 =>
  (if r10 = 0 then
  some ((0 : Int32), sc11, sl3, sl4)
  else
  some ((1 : Int32), sc11, sl3, sl4)))
  else
  q_b1 (fX6_isWord sl3 2) fun r14 =>
  (if r14 = 0 then
  q_b1 (fX6_isWord sl3 2) fun r17 =>
  (if r17 = 0 then
  some ((1 : Int32), sl2, sl3, sl4)
  else
  q_b2 (fX4_refuse sl2 sl3 (3 : Int32)) fun r20 sc21 =>
  (if r20 = 0 then
  some ((0 : Int32), sc21, sl3, sl4)
  else
  some ((1 : Int32), sc21, sl3, sl4)))
  else
  q_b1 (fX6_readNext sl3) fun sc24 =>
  q_b4 (fX4_readHorn sl2 sc24 sl4 l2_1) fun r26 sc27 sc28 sc29 =>
  (if r26 = 0 then
  some ((0 : Int32), sc27, sc28, sc29)
  else
  q_lt (u1 sc29 11 (l2_1 + (1 : Int32))) fun sn32 =>
  fX4_readHorns_L2 n5 (l2_1 + (1 : Int32)) sc27 sc28 sn32)))
def fX4_readHorns (s0 : St) (s1 : St) (s2 : St) : Option (Int32 × St × St × St) :=
  fX4_readHorns_L2 5000 (0 : Int32) s0 s1 s2
def fX4_readTree (s0 : St) (s1 : St) (s2 : St) (p2 : Int32) : Option (Int32 × St × St × St) :=
  q_b1 (fX4_kindNamed s1) fun r1 =>
  (if r1 = (-1000000 : Int32) then
  q_b2 (fX4_refuse s0 s1 (1 : Int32)) fun r58 sc59 =>
  if isb r58 then
  some (r58, sc59, s1, s2)
  else none
  else
  if inb p2 4 then
  q_lt (uA s2 7 p2 r1) fun sn5 =>
  q_b1 (fX6_readNext s1) fun sc6 =>
  q_b1 (fX6_isSort sc6 (2 : Int32)) fun r8 =>
  (if r8 = 0 then
  q_b3 (fX4_takeNumber s0 sc6 (0 : Int32) (30 : Int32)) fun r11 sc12 sc13 =>
  (if r11 = 0 then
  some ((0 : Int32), sc12, sc13, sn5)
  else
  if inb p2 4 then
  q_lt (uA sn5 8 p2 (sc12 1 0)) fun sn17 =>
  q_b3 (fX4_takeNumber sc12 sc13 (0 : Int32) (9 : Int32)) fun r18 sc19 sc20 =>
  (if r18 = 0 then
  some ((0 : Int32), sc19, sc20, sn17)
  else
  if inb p2 4 then
  q_lt (uA sn17 9 p2 (sc19 1 0)) fun sn24 =>
  q_b3 (fX4_takeSign sc19 sc20) fun r25 sc26 sc27 =>
  if isb r25 then
  some (r25, sc26, sc27, sn24)
  else none
  else none)
  else none)
  else
  q_b1 (fX6_number sc6) fun r30 =>
  q_b1 (fX3_hasTreeAt sn5 r30) fun r32 =>
  (if r32 = 0 then
  q_b3 (fX4_takeNumber s0 sc6 (0 : Int32) (30 : Int32)) fun r35 sc36 sc37 =>
  (if r35 = 0 then
  some ((0 : Int32), sc36, sc37, sn5)
  else
  if inb p2 4 then
  q_lt (uA sn5 8 p2 (sc36 1 0)) fun sn41 =>
  q_b3 (fX4_takeNumber sc36 sc37 (0 : Int32) (9 : Int32)) fun r42 sc43 sc44 =>
  (if r42 = 0 then
  some ((0 : Int32), sc43, sc44, sn41)
  else
  if inb p2 4 then
  q_lt (uA sn41 9 p2 (sc43 1 0)) fun sn48 =>
  q_b3 (fX4_takeSign sc43 sc44) fun r49 sc50 sc51 =>
  if isb r49 then
  some (r49, sc50, sc51, sn48)
  else none
  else none)
  else none)
  else
  q_b2 (fX4_refuse s0 sc6 (2 : Int32)) fun r54 sc55 =>
  if isb r54 then
  some (r54, sc55, sc6, sn5)
  else none))
  else none)
def fX4_readTrees_L2 : Nat → Int32 → St → St → St → Option (Int32 × St × St × St)
  | 0, _, _, _, _ => none
  | n5 + 1, l2_1, sl2, sl3, sl4 =>
  (if (4 : Int32) ≤ l2_1 then
  q_b1 (fX6_isWord sl3 3) fun r7 =>
  (if r7 = 0 then
  some ((1 : Int32), sl2, sl3, sl4)
  else
  q_b2 (fX4_refuse sl2 sl3 (3 : Int32)) fun r10 sc11 =>
  (if r10 = 0 then
  some ((0 : Int32), sc11, sl3, sl4)
  else
  some ((1 : Int32), sc11, sl3, sl4)))
  else
  q_b1 (fX6_isWord sl3 3) fun r14 =>
  (if r14 = 0 then
  q_b1 (fX6_isWord sl3 3) fun r17 =>
  (if r17 = 0 then
  some ((1 : Int32), sl2, sl3, sl4)
  else
  q_b2 (fX4_refuse sl2 sl3 (3 : Int32)) fun r20 sc21 =>
  (if r20 = 0 then
  some ((0 : Int32), sc21, sl3, sl4)
  else
  some ((1 : Int32), sc21, sl3, sl4)))
  else
  q_b1 (fX6_readNext sl3) fun sc24 =>
  q_b4 (fX4_readTree sl2 sc24 sl4 l2_1) fun r26 sc27 sc28 sc29 =>
  (if r26 = 0 then
  some ((0 : Int32), sc27, sc28, sc29)
  else
  q_lt (u1 sc29 12 (l2_1 + (1 : Int32))) fun sn32 =>
  fX4_readTrees_L2 n5 (l2_1 + (1 : Int32)) sc27 sc28 sn32)))
def fX4_readTrees (s0 : St) (s1 : St) (s2 : St) : Option (Int32 × St × St × St) :=
  fX4_readTrees_L2 5000 (0 : Int32) s0 s1 s2
def fX4_readInto (s0 : St) (s1 : St) (s2 : St) : Option (Int32 × St × St × St) :=
  q_b1 (fX3_clear s2) fun sc1 =>
  q_b1 (fX6_readFirst s1) fun sc3 =>
  q_b4 (fX4_readWinds s0 sc3 sc1) fun r5 sc6 sc7 sc8 =>
  (if r5 = 0 then
  some ((0 : Int32), sc6, sc7, sc8)
  else
  q_b4 (fX4_readGraves sc6 sc7 sc8) fun r11 sc12 sc13 sc14 =>
  (if r11 = 0 then
  some ((0 : Int32), sc12, sc13, sc14)
  else
  q_b4 (fX4_readHorns sc12 sc13 sc14) fun r17 sc18 sc19 sc20 =>
  (if r17 = 0 then
  some ((0 : Int32), sc18, sc19, sc20)
  else
  q_b4 (fX4_readTrees sc18 sc19 sc20) fun r23 sc24 sc25 sc26 =>
  (if r23 = 0 then
  some ((0 : Int32), sc24, sc25, sc26)
  else
  q_b1 (fX6_isSort sc25 (0 : Int32)) fun r29 =>
  (if r29 = 0 then
  q_b2 (fX4_refuse sc24 sc25 (1 : Int32)) fun r32 sc33 =>
  (if r32 = 0 then
  some ((0 : Int32), sc33, sc25, sc26)
  else
  some ((1 : Int32), sc33, sc25, sc26))
  else
  some ((1 : Int32), sc24, sc25, sc26))))))
def fX7_image (s0 : St) (s1 : St) (s2 : St) (s3 : St) (p1 : Int32) : Option (Int64 × St × St × St) :=
  q_b1 (fX7_isImage p1) fun r1 =>
  (if r1 = 0 then
  some ((-9000000000000000001 : Int64), s0, s2, s3)
  else
  (if (s0 10 0) = 0 then
  some ((-9000000000000000002 : Int64), s0, s2, s3)
  else
  (if p1 = 0 then
  q_b1 (fX3_become s2 s1) fun sc6 =>
  q_lt (u1 s0 11 ((s0 11 0) ||| ((1 : Int32) <<< (p1 &&& 31)))) fun sn8 =>
  some ((1 : Int64), sn8, sc6, s3)
  else
  q_b1 (fX3_become s3 s1) fun sc9 =>
  q_lt (u1 s0 11 ((s0 11 0) ||| ((1 : Int32) <<< (p1 &&& 31)))) fun sn11 =>
  some ((1 : Int64), sn11, s2, sc9))))
def fX7_restore (s0 : St) (s1 : St) (s2 : St) (s3 : St) (s4 : St) (p1 : Int32) : Option (Int64 × St × St) :=
  q_b1 (fX7_isImage p1) fun r1 =>
  (if r1 = 0 then
  some ((-9000000000000000001 : Int64), s1, s4)
  else
  (if (((s0 11 0) >>> (p1 &&& 31)) &&& (1 : Int32)) = 0 then
  some ((-9000000000000000002 : Int64), s1, s4)
  else
  (if p1 = 0 then
  q_b1 (fX3_become s1 s2) fun sc6 =>
  q_b1 (fX0_forgetAll s4) fun sc8 =>
  some ((1 : Int64), sc6, sc8)
  else
  q_b1 (fX3_become s1 s3) fun sc10 =>
  q_b1 (fX0_forgetAll s4) fun sc12 =>
  some ((1 : Int64), sc10, sc12))))
def fX7_hill (g0 : (Nat → Nat)) (s0 : St) (s1 : St) (s2 : St) (s4 : St) (s5 : St) : Option (Int64 × (Nat → Nat) × St × St × St × St × St) :=
  q_b4 (fX4_readInto s1 s2 s4) fun r1 sc2 sc3 sc4 =>
  q_b1 (fX6_clear sc3) fun sc6 =>
  (if r1 = 0 then
  q_b1 (fX4_faultNumber sc2) fun r14 =>
  q_lt (u1 s0 12 r14) fun sn16 =>
  q_b1 (fX4_faultPlace sc2) fun r17 =>
  some (((-9000000000000000100 : Int64) - r17.toInt64), g0, sn16, sc2, sc6, sc4, s5)
  else
  q_lt (gU g0 8 (g0 9)) fun gn9 =>
  q_lt (gU gn9 9 (g0 8)) fun gn10 =>
  q_lt (u1 s0 10 (1 : Int32)) fun sn11 =>
  q_b1 (fX0_forgetAll s5) fun sc12 =>
  some (((sc4 10 0).toInt64), gn10, sn11, sc2, sc6, sc4, sc12))
