/-! The typing of the class's heap: a the object, q its cells, r the files. -/
def ty_gens (q r3 : Nat → Nat) : List Nat := [(q 42), (q 21)]
def ty_srcs (q r3 : Nat → Nat) : List Nat := [(q 18), (q 17), (q 20)]
def ty_spelled (q r3 : Nat → Nat) : List Nat := [(q 85), (q 88), (q 55), (q 34), (q 44), (q 23), (q 12)]
def ty_pools (q r3 : Nat → Nat) : List Nat := [(q 55), (q 34)]
def tyC (G : zG) (a : Nat) (q r3 : Nat → Nat) : tT := [
  (a, tO 12 [tR [(q 1)], tR [(q 2)], tI, tR [(q 3)], tR [(q 4)], tR [(q 5)], tR [(q 16)], tR (ty_gens q r3), tR (ty_gens q r3), tR [(q 63)], tR [(q 71)], tR [(q 72)], tI, tI, tI, tI, tI, tI, tI]),
  ((q 1), tAI (G.2.1 1) 20 (fun _ _ => True)),
  ((q 2), tAI (G.2.1 1) 4000 (fun _ _ => True)),
  ((q 3), tAR (G.2.1 4) 8 []),
  ((q 4), tAI (G.2.1 0) 8 (fun _ _ => True)),
  ((q 5), tO 8 [tR [(q 6)], tR [(q 7)], tR [(q 8)], tR [(q 9)], tR [(q 10)], tR [(q 11)], tR [(q 12)], tI, tI, tI, tR [(q 13)], tR [(q 14)], tR [(q 15)], tI]),
  ((q 6), tAI (G.2.1 0) 500 (fun _ _ => True)),
  ((q 7), tAL (G.2.1 2) 500 (fun _ _ => True)),
  ((q 8), tAI (G.2.1 0) 500 (fun _ _ => True)),
  ((q 9), tAI (G.2.1 0) 500 (fun _ _ => True)),
  ((q 10), tAI (G.2.1 0) 500 (fun _ _ => True)),
  ((q 11), tAI (G.2.1 0) 50000 (fun _ _ => True)),
  ((q 12), tAI (G.2.1 1) 16000 (fun _ _ => True)),
  ((q 13), tAI (G.2.1 1) 640 (fun _ _ => True)),
  ((q 14), tAI (G.2.1 0) 40 (fun _ _ => True)),
  ((q 15), tAI (G.2.1 0) 40 (fun _ _ => True)),
  ((q 16), tO 7 [tR (ty_srcs q r3), tZ, tR [(q 18)], tR [(q 19)], tI, tI, tI, tI, tI, tR (ty_srcs q r3), tI, tI]),
  ((q 17), tAI (G.2.1 1) 0 (fun _ _ => True)),
  ((q 18), tAI (G.2.1 1) 4001 (fun _ _ => True)),
  ((q 19), tAI (G.2.1 0) 4002 (fun _ _ => True)),
  ((q 20), tAI (G.2.1 1) 0 (fun _ _ => True)),
  ((q 22), tO 6 [tR [(q 23)], tR [(q 24)], tR [(q 25)], tR [(q 26)], tI, tI]),
  ((q 23), tAI (G.2.1 1) 32100 (fun _ _ => True)),
  ((q 24), tAI (G.2.1 0) 16102 (fun _ _ => True)),
  ((q 25), tAI (G.2.1 0) 16102 (fun _ _ => True)),
  ((q 26), tAI (G.2.1 0) 8192 (fun _ _ => True)),
  ((q 27), tO 4 [tR [(q 28)], tR [(q 29)], tR [(q 30)], tR [(q 31)], tR [(q 32)], tI]),
  ((q 28), tAI (G.2.1 0) 64 (fun _ _ => True)),
  ((q 29), tAI (G.2.1 0) 8 (fun _ _ => True)),
  ((q 30), tAI (G.2.1 0) 64 (fun _ _ => True)),
  ((q 31), tAI (G.2.1 0) 8 (fun _ _ => True)),
  ((q 32), tAI (G.2.1 0) 8 (fun _ _ => True)),
  ((q 33), tAI (G.2.1 0) 192000 (fun _ _ => True)),
  ((q 34), tAI (G.2.1 1) 32400 (fun _ _ => True)),
  ((q 35), tAI (G.2.1 0) 32400 (fun _ _ => True)),
  ((q 36), tAI (G.2.1 0) 2240 (fun _ _ => True)),
  ((q 37), tAI (G.2.1 0) 32400 (fun _ _ => True)),
  ((q 38), tAI (G.2.1 0) 21600 (fun _ _ => True)),
  ((q 39), tAI (G.2.1 0) 8 (fun _ _ => True)),
  ((q 40), tAI (G.2.1 0) 16102 (fun _ _ => True)),
  ((q 41), tAI (G.2.1 0) 16102 (fun _ _ => True)),
  ((q 42), tO 2 [tR [(q 43)], tR [(q 48)], tR [(q 54)], tI, tR [(q 55)], tR [(q 56)], tI, tR [(q 57)], tI, tR [(q 58)], tI, tR [(q 59)], tI, tR [(q 60)], tR [(q 61)], tR [(q 62)], tI]),
  ((q 43), tO 6 [tR [(q 44)], tR [(q 45)], tR [(q 46)], tR [(q 47)], tI, tI]),
  ((q 44), tAI (G.2.1 1) 32100 (fun _ _ => True)),
  ((q 45), tAI (G.2.1 0) 16102 (fun _ _ => True)),
  ((q 46), tAI (G.2.1 0) 16102 (fun _ _ => True)),
  ((q 47), tAI (G.2.1 0) 8192 (fun _ _ => True)),
  ((q 48), tO 4 [tR [(q 49)], tR [(q 50)], tR [(q 51)], tR [(q 52)], tR [(q 53)], tI]),
  ((q 49), tAI (G.2.1 0) 64 (fun _ _ => True)),
  ((q 50), tAI (G.2.1 0) 8 (fun _ _ => True)),
  ((q 51), tAI (G.2.1 0) 64 (fun _ _ => True)),
  ((q 52), tAI (G.2.1 0) 8 (fun _ _ => True)),
  ((q 53), tAI (G.2.1 0) 8 (fun _ _ => True)),
  ((q 54), tAI (G.2.1 0) 192000 (fun _ _ => True)),
  ((q 55), tAI (G.2.1 1) 32400 (fun _ _ => True)),
  ((q 56), tAI (G.2.1 0) 32400 (fun _ _ => True)),
  ((q 57), tAI (G.2.1 0) 2240 (fun _ _ => True)),
  ((q 58), tAI (G.2.1 0) 32400 (fun _ _ => True)),
  ((q 59), tAI (G.2.1 0) 21600 (fun _ _ => True)),
  ((q 60), tAI (G.2.1 0) 8 (fun _ _ => True)),
  ((q 61), tAI (G.2.1 0) 16102 (fun _ _ => True)),
  ((q 62), tAI (G.2.1 0) 16102 (fun _ _ => True)),
  ((q 63), tO 1 [tR [(q 3)], tR [(q 4)], tR [(q 16)], tR (ty_gens q r3), tR [(q 70)], tR [(q 64)], tR [(q 65)], tI, tR [(q 66)], tR [(q 67)], tI, tI, tR [(q 68)], tR [(q 69)], tI, tI, tI, tI, tZ]),
  ((q 64), tAI (G.2.1 0) 13 (fun _ _ => True)),
  ((q 65), tAI (G.2.1 0) 13 (fun _ _ => True)),
  ((q 66), tAI (G.2.1 0) 1400 (fun _ _ => True)),
  ((q 67), tAI (G.2.1 0) 1400 (fun _ _ => True)),
  ((q 68), tAI (G.2.1 0) 9 (fun _ _ => True)),
  ((q 69), tAI (G.2.1 0) 9 (fun _ _ => True)),
  ((q 70), tO 10 [tR [(q 16)], tR (ty_gens q r3), tI, tI, tI, tI, tI, tI, tZ, tI, tI, tZ, tI, tI, tI, tZ, tI]),
  ((q 71), tO 0 [tR [(q 16)], tR (ty_gens q r3), tI, tI, tI]),
  ((q 72), tO 5 [tR [(q 75)], tR [(q 89)], tR [(q 79)], tR (ty_gens q r3), tR [(q 73)], tI, tR [(q 74)], tI, tI, tI, tI, tI, tI, tI, tI, tI, tI, tI, tI, tZ, tI]),
  ((q 73), tAI (G.2.1 0) 150000 (fun _ _ => True)),
  ((q 74), tAI (G.2.1 0) 75000 (fun _ _ => True)),
  ((q 75), tO 9 [tR [(q 76)], tR [(q 77)], tR [(q 78)]]),
  ((q 76), tAI (G.2.1 0) 1200 (fun _ _ => True)),
  ((q 77), tAI (G.2.1 0) 2000 (fun _ _ => True)),
  ((q 78), tAI (G.2.1 0) 3 (fun _ _ => True)),
  ((q 79), tO 3 [tR [(q 5)], tR [(q 75)], tR (ty_gens q r3), tR [(q 80)], tR [(q 81)], tR [(q 82)], tR [(q 83)], tI, tR [(q 84)], tI, tI, tR [(q 85)], tI, tR [(q 86)], tR [(q 87)], tI, tR (ty_spelled q r3), tI, tI, tR [(q 88)]]),
  ((q 80), tAI (G.2.1 0) 2000 (fun _ _ => True)),
  ((q 81), tAI (G.2.1 0) 2000 (fun _ _ => True)),
  ((q 82), tAI (G.2.1 0) 2000 (fun _ _ => True)),
  ((q 83), tAI (G.2.1 0) 24000 (fun _ _ => True)),
  ((q 84), tAI (G.2.1 0) 45000 (fun _ _ => True)),
  ((q 85), tAI (G.2.1 1) 40000 (fun _ _ => True)),
  ((q 86), tAI (G.2.1 0) 40 (fun _ _ => True)),
  ((q 87), tAI (G.2.1 0) 40 (fun _ _ => True)),
  ((q 88), tAI (G.2.1 1) 20 (fun _ _ => True)),
  ((q 89), tO 11 [tR [(q 75)], tR [(q 90)], tR [(q 91)], tI, tI, tI, tZ, tI, tI, tR [(q 92)], tI, tR (ty_pools q r3), tR [(q 93)], tI, tI, tI]),
  ((q 21), tO 2 [tR [(q 22)], tR [(q 27)], tR [(q 33)], tI, tR [(q 34)], tR [(q 35)], tI, tR [(q 36)], tI, tR [(q 37)], tI, tR [(q 38)], tI, tR [(q 39)], tR [(q 40)], tR [(q 41)], tI]),
  ((q 90), tAI (G.2.1 1) 12000 (fun _ _ => True)),
  ((q 91), tAI (G.2.1 0) 36000 (fun _ _ => True)),
  ((q 92), tAI (G.2.1 1) 33000 (fun _ _ => True)),
  ((q 93), tAI (G.2.1 0) 200 (fun _ _ => True))]
theorem tyC_0 (G : zG) (a : Nat) (q r3 : Nat → Nat) : (tyC G a q r3)[0]? = some (a, tO 12 [tR [(q 1)], tR [(q 2)], tI, tR [(q 3)], tR [(q 4)], tR [(q 5)], tR [(q 16)], tR (ty_gens q r3), tR (ty_gens q r3), tR [(q 63)], tR [(q 71)], tR [(q 72)], tI, tI, tI, tI, tI, tI, tI]) := rfl
theorem tyC_1 (G : zG) (a : Nat) (q r3 : Nat → Nat) : (tyC G a q r3)[1]? = some ((q 1), tAI (G.2.1 1) 20 (fun _ _ => True)) := rfl
theorem tyC_2 (G : zG) (a : Nat) (q r3 : Nat → Nat) : (tyC G a q r3)[2]? = some ((q 2), tAI (G.2.1 1) 4000 (fun _ _ => True)) := rfl
theorem tyC_3 (G : zG) (a : Nat) (q r3 : Nat → Nat) : (tyC G a q r3)[3]? = some ((q 3), tAR (G.2.1 4) 8 []) := rfl
theorem tyC_4 (G : zG) (a : Nat) (q r3 : Nat → Nat) : (tyC G a q r3)[4]? = some ((q 4), tAI (G.2.1 0) 8 (fun _ _ => True)) := rfl
theorem tyC_5 (G : zG) (a : Nat) (q r3 : Nat → Nat) : (tyC G a q r3)[5]? = some ((q 5), tO 8 [tR [(q 6)], tR [(q 7)], tR [(q 8)], tR [(q 9)], tR [(q 10)], tR [(q 11)], tR [(q 12)], tI, tI, tI, tR [(q 13)], tR [(q 14)], tR [(q 15)], tI]) := rfl
theorem tyC_6 (G : zG) (a : Nat) (q r3 : Nat → Nat) : (tyC G a q r3)[6]? = some ((q 6), tAI (G.2.1 0) 500 (fun _ _ => True)) := rfl
theorem tyC_7 (G : zG) (a : Nat) (q r3 : Nat → Nat) : (tyC G a q r3)[7]? = some ((q 7), tAL (G.2.1 2) 500 (fun _ _ => True)) := rfl
theorem tyC_8 (G : zG) (a : Nat) (q r3 : Nat → Nat) : (tyC G a q r3)[8]? = some ((q 8), tAI (G.2.1 0) 500 (fun _ _ => True)) := rfl
theorem tyC_9 (G : zG) (a : Nat) (q r3 : Nat → Nat) : (tyC G a q r3)[9]? = some ((q 9), tAI (G.2.1 0) 500 (fun _ _ => True)) := rfl
theorem tyC_10 (G : zG) (a : Nat) (q r3 : Nat → Nat) : (tyC G a q r3)[10]? = some ((q 10), tAI (G.2.1 0) 500 (fun _ _ => True)) := rfl
theorem tyC_11 (G : zG) (a : Nat) (q r3 : Nat → Nat) : (tyC G a q r3)[11]? = some ((q 11), tAI (G.2.1 0) 50000 (fun _ _ => True)) := rfl
theorem tyC_12 (G : zG) (a : Nat) (q r3 : Nat → Nat) : (tyC G a q r3)[12]? = some ((q 12), tAI (G.2.1 1) 16000 (fun _ _ => True)) := rfl
theorem tyC_13 (G : zG) (a : Nat) (q r3 : Nat → Nat) : (tyC G a q r3)[13]? = some ((q 13), tAI (G.2.1 1) 640 (fun _ _ => True)) := rfl
theorem tyC_14 (G : zG) (a : Nat) (q r3 : Nat → Nat) : (tyC G a q r3)[14]? = some ((q 14), tAI (G.2.1 0) 40 (fun _ _ => True)) := rfl
theorem tyC_15 (G : zG) (a : Nat) (q r3 : Nat → Nat) : (tyC G a q r3)[15]? = some ((q 15), tAI (G.2.1 0) 40 (fun _ _ => True)) := rfl
theorem tyC_16 (G : zG) (a : Nat) (q r3 : Nat → Nat) : (tyC G a q r3)[16]? = some ((q 16), tO 7 [tR (ty_srcs q r3), tZ, tR [(q 18)], tR [(q 19)], tI, tI, tI, tI, tI, tR (ty_srcs q r3), tI, tI]) := rfl
theorem tyC_17 (G : zG) (a : Nat) (q r3 : Nat → Nat) : (tyC G a q r3)[17]? = some ((q 17), tAI (G.2.1 1) 0 (fun _ _ => True)) := rfl
theorem tyC_18 (G : zG) (a : Nat) (q r3 : Nat → Nat) : (tyC G a q r3)[18]? = some ((q 18), tAI (G.2.1 1) 4001 (fun _ _ => True)) := rfl
theorem tyC_19 (G : zG) (a : Nat) (q r3 : Nat → Nat) : (tyC G a q r3)[19]? = some ((q 19), tAI (G.2.1 0) 4002 (fun _ _ => True)) := rfl
theorem tyC_20 (G : zG) (a : Nat) (q r3 : Nat → Nat) : (tyC G a q r3)[20]? = some ((q 20), tAI (G.2.1 1) 0 (fun _ _ => True)) := rfl
theorem tyC_21 (G : zG) (a : Nat) (q r3 : Nat → Nat) : (tyC G a q r3)[21]? = some ((q 22), tO 6 [tR [(q 23)], tR [(q 24)], tR [(q 25)], tR [(q 26)], tI, tI]) := rfl
theorem tyC_22 (G : zG) (a : Nat) (q r3 : Nat → Nat) : (tyC G a q r3)[22]? = some ((q 23), tAI (G.2.1 1) 32100 (fun _ _ => True)) := rfl
theorem tyC_23 (G : zG) (a : Nat) (q r3 : Nat → Nat) : (tyC G a q r3)[23]? = some ((q 24), tAI (G.2.1 0) 16102 (fun _ _ => True)) := rfl
theorem tyC_24 (G : zG) (a : Nat) (q r3 : Nat → Nat) : (tyC G a q r3)[24]? = some ((q 25), tAI (G.2.1 0) 16102 (fun _ _ => True)) := rfl
theorem tyC_25 (G : zG) (a : Nat) (q r3 : Nat → Nat) : (tyC G a q r3)[25]? = some ((q 26), tAI (G.2.1 0) 8192 (fun _ _ => True)) := rfl
theorem tyC_26 (G : zG) (a : Nat) (q r3 : Nat → Nat) : (tyC G a q r3)[26]? = some ((q 27), tO 4 [tR [(q 28)], tR [(q 29)], tR [(q 30)], tR [(q 31)], tR [(q 32)], tI]) := rfl
theorem tyC_27 (G : zG) (a : Nat) (q r3 : Nat → Nat) : (tyC G a q r3)[27]? = some ((q 28), tAI (G.2.1 0) 64 (fun _ _ => True)) := rfl
theorem tyC_28 (G : zG) (a : Nat) (q r3 : Nat → Nat) : (tyC G a q r3)[28]? = some ((q 29), tAI (G.2.1 0) 8 (fun _ _ => True)) := rfl
theorem tyC_29 (G : zG) (a : Nat) (q r3 : Nat → Nat) : (tyC G a q r3)[29]? = some ((q 30), tAI (G.2.1 0) 64 (fun _ _ => True)) := rfl
theorem tyC_30 (G : zG) (a : Nat) (q r3 : Nat → Nat) : (tyC G a q r3)[30]? = some ((q 31), tAI (G.2.1 0) 8 (fun _ _ => True)) := rfl
theorem tyC_31 (G : zG) (a : Nat) (q r3 : Nat → Nat) : (tyC G a q r3)[31]? = some ((q 32), tAI (G.2.1 0) 8 (fun _ _ => True)) := rfl
theorem tyC_32 (G : zG) (a : Nat) (q r3 : Nat → Nat) : (tyC G a q r3)[32]? = some ((q 33), tAI (G.2.1 0) 192000 (fun _ _ => True)) := rfl
theorem tyC_33 (G : zG) (a : Nat) (q r3 : Nat → Nat) : (tyC G a q r3)[33]? = some ((q 34), tAI (G.2.1 1) 32400 (fun _ _ => True)) := rfl
theorem tyC_34 (G : zG) (a : Nat) (q r3 : Nat → Nat) : (tyC G a q r3)[34]? = some ((q 35), tAI (G.2.1 0) 32400 (fun _ _ => True)) := rfl
theorem tyC_35 (G : zG) (a : Nat) (q r3 : Nat → Nat) : (tyC G a q r3)[35]? = some ((q 36), tAI (G.2.1 0) 2240 (fun _ _ => True)) := rfl
theorem tyC_36 (G : zG) (a : Nat) (q r3 : Nat → Nat) : (tyC G a q r3)[36]? = some ((q 37), tAI (G.2.1 0) 32400 (fun _ _ => True)) := rfl
theorem tyC_37 (G : zG) (a : Nat) (q r3 : Nat → Nat) : (tyC G a q r3)[37]? = some ((q 38), tAI (G.2.1 0) 21600 (fun _ _ => True)) := rfl
theorem tyC_38 (G : zG) (a : Nat) (q r3 : Nat → Nat) : (tyC G a q r3)[38]? = some ((q 39), tAI (G.2.1 0) 8 (fun _ _ => True)) := rfl
theorem tyC_39 (G : zG) (a : Nat) (q r3 : Nat → Nat) : (tyC G a q r3)[39]? = some ((q 40), tAI (G.2.1 0) 16102 (fun _ _ => True)) := rfl
theorem tyC_40 (G : zG) (a : Nat) (q r3 : Nat → Nat) : (tyC G a q r3)[40]? = some ((q 41), tAI (G.2.1 0) 16102 (fun _ _ => True)) := rfl
theorem tyC_41 (G : zG) (a : Nat) (q r3 : Nat → Nat) : (tyC G a q r3)[41]? = some ((q 42), tO 2 [tR [(q 43)], tR [(q 48)], tR [(q 54)], tI, tR [(q 55)], tR [(q 56)], tI, tR [(q 57)], tI, tR [(q 58)], tI, tR [(q 59)], tI, tR [(q 60)], tR [(q 61)], tR [(q 62)], tI]) := rfl
theorem tyC_42 (G : zG) (a : Nat) (q r3 : Nat → Nat) : (tyC G a q r3)[42]? = some ((q 43), tO 6 [tR [(q 44)], tR [(q 45)], tR [(q 46)], tR [(q 47)], tI, tI]) := rfl
theorem tyC_43 (G : zG) (a : Nat) (q r3 : Nat → Nat) : (tyC G a q r3)[43]? = some ((q 44), tAI (G.2.1 1) 32100 (fun _ _ => True)) := rfl
theorem tyC_44 (G : zG) (a : Nat) (q r3 : Nat → Nat) : (tyC G a q r3)[44]? = some ((q 45), tAI (G.2.1 0) 16102 (fun _ _ => True)) := rfl
theorem tyC_45 (G : zG) (a : Nat) (q r3 : Nat → Nat) : (tyC G a q r3)[45]? = some ((q 46), tAI (G.2.1 0) 16102 (fun _ _ => True)) := rfl
theorem tyC_46 (G : zG) (a : Nat) (q r3 : Nat → Nat) : (tyC G a q r3)[46]? = some ((q 47), tAI (G.2.1 0) 8192 (fun _ _ => True)) := rfl
theorem tyC_47 (G : zG) (a : Nat) (q r3 : Nat → Nat) : (tyC G a q r3)[47]? = some ((q 48), tO 4 [tR [(q 49)], tR [(q 50)], tR [(q 51)], tR [(q 52)], tR [(q 53)], tI]) := rfl
theorem tyC_48 (G : zG) (a : Nat) (q r3 : Nat → Nat) : (tyC G a q r3)[48]? = some ((q 49), tAI (G.2.1 0) 64 (fun _ _ => True)) := rfl
theorem tyC_49 (G : zG) (a : Nat) (q r3 : Nat → Nat) : (tyC G a q r3)[49]? = some ((q 50), tAI (G.2.1 0) 8 (fun _ _ => True)) := rfl
theorem tyC_50 (G : zG) (a : Nat) (q r3 : Nat → Nat) : (tyC G a q r3)[50]? = some ((q 51), tAI (G.2.1 0) 64 (fun _ _ => True)) := rfl
theorem tyC_51 (G : zG) (a : Nat) (q r3 : Nat → Nat) : (tyC G a q r3)[51]? = some ((q 52), tAI (G.2.1 0) 8 (fun _ _ => True)) := rfl
theorem tyC_52 (G : zG) (a : Nat) (q r3 : Nat → Nat) : (tyC G a q r3)[52]? = some ((q 53), tAI (G.2.1 0) 8 (fun _ _ => True)) := rfl
theorem tyC_53 (G : zG) (a : Nat) (q r3 : Nat → Nat) : (tyC G a q r3)[53]? = some ((q 54), tAI (G.2.1 0) 192000 (fun _ _ => True)) := rfl
theorem tyC_54 (G : zG) (a : Nat) (q r3 : Nat → Nat) : (tyC G a q r3)[54]? = some ((q 55), tAI (G.2.1 1) 32400 (fun _ _ => True)) := rfl
theorem tyC_55 (G : zG) (a : Nat) (q r3 : Nat → Nat) : (tyC G a q r3)[55]? = some ((q 56), tAI (G.2.1 0) 32400 (fun _ _ => True)) := rfl
theorem tyC_56 (G : zG) (a : Nat) (q r3 : Nat → Nat) : (tyC G a q r3)[56]? = some ((q 57), tAI (G.2.1 0) 2240 (fun _ _ => True)) := rfl
theorem tyC_57 (G : zG) (a : Nat) (q r3 : Nat → Nat) : (tyC G a q r3)[57]? = some ((q 58), tAI (G.2.1 0) 32400 (fun _ _ => True)) := rfl
theorem tyC_58 (G : zG) (a : Nat) (q r3 : Nat → Nat) : (tyC G a q r3)[58]? = some ((q 59), tAI (G.2.1 0) 21600 (fun _ _ => True)) := rfl
theorem tyC_59 (G : zG) (a : Nat) (q r3 : Nat → Nat) : (tyC G a q r3)[59]? = some ((q 60), tAI (G.2.1 0) 8 (fun _ _ => True)) := rfl
theorem tyC_60 (G : zG) (a : Nat) (q r3 : Nat → Nat) : (tyC G a q r3)[60]? = some ((q 61), tAI (G.2.1 0) 16102 (fun _ _ => True)) := rfl
theorem tyC_61 (G : zG) (a : Nat) (q r3 : Nat → Nat) : (tyC G a q r3)[61]? = some ((q 62), tAI (G.2.1 0) 16102 (fun _ _ => True)) := rfl
theorem tyC_62 (G : zG) (a : Nat) (q r3 : Nat → Nat) : (tyC G a q r3)[62]? = some ((q 63), tO 1 [tR [(q 3)], tR [(q 4)], tR [(q 16)], tR (ty_gens q r3), tR [(q 70)], tR [(q 64)], tR [(q 65)], tI, tR [(q 66)], tR [(q 67)], tI, tI, tR [(q 68)], tR [(q 69)], tI, tI, tI, tI, tZ]) := rfl
theorem tyC_63 (G : zG) (a : Nat) (q r3 : Nat → Nat) : (tyC G a q r3)[63]? = some ((q 64), tAI (G.2.1 0) 13 (fun _ _ => True)) := rfl
theorem tyC_64 (G : zG) (a : Nat) (q r3 : Nat → Nat) : (tyC G a q r3)[64]? = some ((q 65), tAI (G.2.1 0) 13 (fun _ _ => True)) := rfl
theorem tyC_65 (G : zG) (a : Nat) (q r3 : Nat → Nat) : (tyC G a q r3)[65]? = some ((q 66), tAI (G.2.1 0) 1400 (fun _ _ => True)) := rfl
theorem tyC_66 (G : zG) (a : Nat) (q r3 : Nat → Nat) : (tyC G a q r3)[66]? = some ((q 67), tAI (G.2.1 0) 1400 (fun _ _ => True)) := rfl
theorem tyC_67 (G : zG) (a : Nat) (q r3 : Nat → Nat) : (tyC G a q r3)[67]? = some ((q 68), tAI (G.2.1 0) 9 (fun _ _ => True)) := rfl
theorem tyC_68 (G : zG) (a : Nat) (q r3 : Nat → Nat) : (tyC G a q r3)[68]? = some ((q 69), tAI (G.2.1 0) 9 (fun _ _ => True)) := rfl
theorem tyC_69 (G : zG) (a : Nat) (q r3 : Nat → Nat) : (tyC G a q r3)[69]? = some ((q 70), tO 10 [tR [(q 16)], tR (ty_gens q r3), tI, tI, tI, tI, tI, tI, tZ, tI, tI, tZ, tI, tI, tI, tZ, tI]) := rfl
theorem tyC_70 (G : zG) (a : Nat) (q r3 : Nat → Nat) : (tyC G a q r3)[70]? = some ((q 71), tO 0 [tR [(q 16)], tR (ty_gens q r3), tI, tI, tI]) := rfl
theorem tyC_71 (G : zG) (a : Nat) (q r3 : Nat → Nat) : (tyC G a q r3)[71]? = some ((q 72), tO 5 [tR [(q 75)], tR [(q 89)], tR [(q 79)], tR (ty_gens q r3), tR [(q 73)], tI, tR [(q 74)], tI, tI, tI, tI, tI, tI, tI, tI, tI, tI, tI, tI, tZ, tI]) := rfl
theorem tyC_72 (G : zG) (a : Nat) (q r3 : Nat → Nat) : (tyC G a q r3)[72]? = some ((q 73), tAI (G.2.1 0) 150000 (fun _ _ => True)) := rfl
theorem tyC_73 (G : zG) (a : Nat) (q r3 : Nat → Nat) : (tyC G a q r3)[73]? = some ((q 74), tAI (G.2.1 0) 75000 (fun _ _ => True)) := rfl
theorem tyC_74 (G : zG) (a : Nat) (q r3 : Nat → Nat) : (tyC G a q r3)[74]? = some ((q 75), tO 9 [tR [(q 76)], tR [(q 77)], tR [(q 78)]]) := rfl
theorem tyC_75 (G : zG) (a : Nat) (q r3 : Nat → Nat) : (tyC G a q r3)[75]? = some ((q 76), tAI (G.2.1 0) 1200 (fun _ _ => True)) := rfl
theorem tyC_76 (G : zG) (a : Nat) (q r3 : Nat → Nat) : (tyC G a q r3)[76]? = some ((q 77), tAI (G.2.1 0) 2000 (fun _ _ => True)) := rfl
theorem tyC_77 (G : zG) (a : Nat) (q r3 : Nat → Nat) : (tyC G a q r3)[77]? = some ((q 78), tAI (G.2.1 0) 3 (fun _ _ => True)) := rfl
theorem tyC_78 (G : zG) (a : Nat) (q r3 : Nat → Nat) : (tyC G a q r3)[78]? = some ((q 79), tO 3 [tR [(q 5)], tR [(q 75)], tR (ty_gens q r3), tR [(q 80)], tR [(q 81)], tR [(q 82)], tR [(q 83)], tI, tR [(q 84)], tI, tI, tR [(q 85)], tI, tR [(q 86)], tR [(q 87)], tI, tR (ty_spelled q r3), tI, tI, tR [(q 88)]]) := rfl
theorem tyC_79 (G : zG) (a : Nat) (q r3 : Nat → Nat) : (tyC G a q r3)[79]? = some ((q 80), tAI (G.2.1 0) 2000 (fun _ _ => True)) := rfl
theorem tyC_80 (G : zG) (a : Nat) (q r3 : Nat → Nat) : (tyC G a q r3)[80]? = some ((q 81), tAI (G.2.1 0) 2000 (fun _ _ => True)) := rfl
theorem tyC_81 (G : zG) (a : Nat) (q r3 : Nat → Nat) : (tyC G a q r3)[81]? = some ((q 82), tAI (G.2.1 0) 2000 (fun _ _ => True)) := rfl
theorem tyC_82 (G : zG) (a : Nat) (q r3 : Nat → Nat) : (tyC G a q r3)[82]? = some ((q 83), tAI (G.2.1 0) 24000 (fun _ _ => True)) := rfl
theorem tyC_83 (G : zG) (a : Nat) (q r3 : Nat → Nat) : (tyC G a q r3)[83]? = some ((q 84), tAI (G.2.1 0) 45000 (fun _ _ => True)) := rfl
theorem tyC_84 (G : zG) (a : Nat) (q r3 : Nat → Nat) : (tyC G a q r3)[84]? = some ((q 85), tAI (G.2.1 1) 40000 (fun _ _ => True)) := rfl
theorem tyC_85 (G : zG) (a : Nat) (q r3 : Nat → Nat) : (tyC G a q r3)[85]? = some ((q 86), tAI (G.2.1 0) 40 (fun _ _ => True)) := rfl
theorem tyC_86 (G : zG) (a : Nat) (q r3 : Nat → Nat) : (tyC G a q r3)[86]? = some ((q 87), tAI (G.2.1 0) 40 (fun _ _ => True)) := rfl
theorem tyC_87 (G : zG) (a : Nat) (q r3 : Nat → Nat) : (tyC G a q r3)[87]? = some ((q 88), tAI (G.2.1 1) 20 (fun _ _ => True)) := rfl
theorem tyC_88 (G : zG) (a : Nat) (q r3 : Nat → Nat) : (tyC G a q r3)[88]? = some ((q 89), tO 11 [tR [(q 75)], tR [(q 90)], tR [(q 91)], tI, tI, tI, tZ, tI, tI, tR [(q 92)], tI, tR (ty_pools q r3), tR [(q 93)], tI, tI, tI]) := rfl
theorem tyC_89 (G : zG) (a : Nat) (q r3 : Nat → Nat) : (tyC G a q r3)[89]? = some ((q 21), tO 2 [tR [(q 22)], tR [(q 27)], tR [(q 33)], tI, tR [(q 34)], tR [(q 35)], tI, tR [(q 36)], tI, tR [(q 37)], tI, tR [(q 38)], tI, tR [(q 39)], tR [(q 40)], tR [(q 41)], tI]) := rfl
theorem tyC_90 (G : zG) (a : Nat) (q r3 : Nat → Nat) : (tyC G a q r3)[90]? = some ((q 90), tAI (G.2.1 1) 12000 (fun _ _ => True)) := rfl
theorem tyC_91 (G : zG) (a : Nat) (q r3 : Nat → Nat) : (tyC G a q r3)[91]? = some ((q 91), tAI (G.2.1 0) 36000 (fun _ _ => True)) := rfl
theorem tyC_92 (G : zG) (a : Nat) (q r3 : Nat → Nat) : (tyC G a q r3)[92]? = some ((q 92), tAI (G.2.1 1) 33000 (fun _ _ => True)) := rfl
theorem tyC_93 (G : zG) (a : Nat) (q r3 : Nat → Nat) : (tyC G a q r3)[93]? = some ((q 93), tAI (G.2.1 0) 200 (fun _ _ => True)) := rfl
