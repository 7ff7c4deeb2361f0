/-! the shapes of all cells, in the order in which the law makes them -/
def LY : List mEn := [.inr (.inr (6, [some (some 1), some (some 13), some (some 38), some (some 44), some (some 46), some (some 47), some (some 48)])), .inr (.inr (1, [some (some 2), some (some 8), some (some 12), none])), .inr (.inr (2, [some (some 3), some (some 4), some (some 5), none, none, none, none, none])), .inl (0, 7, 0), .inl (0, 7, 0), .inr (.inr (0, [some (some 6), some (some 7), none, none])), .inl (0, 32, 0), .inl (0, 32, 0), .inr (.inr (4, [some (some 9), some (some 10), some (some 11), none])), .inl (0, 8, 0), .inl (0, 8, 0), .inl (0, 8, 0), .inl (0, 6, 0), .inr (.inl (3, [some 14, some 26])), .inr (.inr (1, [some (some 15), some (some 21), some (some 25), none])), .inr (.inr (2, [some (some 16), some (some 17), some (some 18), none, none, none, none, none])), .inl (0, 7, 0), .inl (0, 7, 0), .inr (.inr (0, [some (some 19), some (some 20), none, none])), .inl (0, 32, 0), .inl (0, 32, 0), .inr (.inr (4, [some (some 22), some (some 23), some (some 24), none])), .inl (0, 8, 0), .inl (0, 8, 0), .inl (0, 8, 0), .inl (0, 6, 0), .inr (.inr (1, [some (some 27), some (some 33), some (some 37), none])), .inr (.inr (2, [some (some 28), some (some 29), some (some 30), none, none, none, none, none])), .inl (0, 7, 0), .inl (0, 7, 0), .inr (.inr (0, [some (some 31), some (some 32), none, none])), .inl (0, 32, 0), .inl (0, 32, 0), .inr (.inr (4, [some (some 34), some (some 35), some (some 36), none])), .inl (0, 8, 0), .inl (0, 8, 0), .inl (0, 8, 0), .inl (0, 6, 0), .inr (.inr (2, [some (some 39), some (some 40), some (some 41), none, none, none, none, none])), .inl (0, 7, 0), .inl (0, 7, 0), .inr (.inr (0, [some (some 42), some (some 43), none, none])), .inl (0, 32, 0), .inl (0, 32, 0), .inr (.inr (3, [some (some 45), none])), .inl (0, 60, 0), .inr (.inr (5, [none, none])), .inl (0, 64, 0), .inl (1, 7, 1), .inr (.inr (7, [none, some (some 50), none, some (some 51), none, some (some 52), some (some 53), some (some 54), none, some (some 55), none, none, some (some 56), some (some 57), some (some 58), some (some 59), some (some 60)])), .inl (0, 7, 0), .inl (0, 6, 0), .inl (0, 24, 0), .inl (0, 107, 0), .inl (0, 107, 0), .inl (0, 60, 0), .inl (0, 64, 0), .inl (0, 10, 0), .inl (0, 10, 0), .inl (0, 300, 0), .inl (2, 2, 0)]
theorem ly0 : LY[0]? = some (.inr (.inr (6, [some (some 1), some (some 13), some (some 38), some (some 44), some (some 46), some (some 47), some (some 48)]))) := rfl
theorem ly1 : LY[1]? = some (.inr (.inr (1, [some (some 2), some (some 8), some (some 12), none]))) := rfl
theorem ly2 : LY[2]? = some (.inr (.inr (2, [some (some 3), some (some 4), some (some 5), none, none, none, none, none]))) := rfl
theorem ly3 : LY[3]? = some (.inl (0, 7, 0)) := rfl
theorem ly4 : LY[4]? = some (.inl (0, 7, 0)) := rfl
theorem ly5 : LY[5]? = some (.inr (.inr (0, [some (some 6), some (some 7), none, none]))) := rfl
theorem ly6 : LY[6]? = some (.inl (0, 32, 0)) := rfl
theorem ly7 : LY[7]? = some (.inl (0, 32, 0)) := rfl
theorem ly8 : LY[8]? = some (.inr (.inr (4, [some (some 9), some (some 10), some (some 11), none]))) := rfl
theorem ly9 : LY[9]? = some (.inl (0, 8, 0)) := rfl
theorem ly10 : LY[10]? = some (.inl (0, 8, 0)) := rfl
theorem ly11 : LY[11]? = some (.inl (0, 8, 0)) := rfl
theorem ly12 : LY[12]? = some (.inl (0, 6, 0)) := rfl
theorem ly13 : LY[13]? = some (.inr (.inl (3, [some 14, some 26]))) := rfl
theorem ly14 : LY[14]? = some (.inr (.inr (1, [some (some 15), some (some 21), some (some 25), none]))) := rfl
theorem ly15 : LY[15]? = some (.inr (.inr (2, [some (some 16), some (some 17), some (some 18), none, none, none, none, none]))) := rfl
theorem ly16 : LY[16]? = some (.inl (0, 7, 0)) := rfl
theorem ly17 : LY[17]? = some (.inl (0, 7, 0)) := rfl
theorem ly18 : LY[18]? = some (.inr (.inr (0, [some (some 19), some (some 20), none, none]))) := rfl
theorem ly19 : LY[19]? = some (.inl (0, 32, 0)) := rfl
theorem ly20 : LY[20]? = some (.inl (0, 32, 0)) := rfl
theorem ly21 : LY[21]? = some (.inr (.inr (4, [some (some 22), some (some 23), some (some 24), none]))) := rfl
theorem ly22 : LY[22]? = some (.inl (0, 8, 0)) := rfl
theorem ly23 : LY[23]? = some (.inl (0, 8, 0)) := rfl
theorem ly24 : LY[24]? = some (.inl (0, 8, 0)) := rfl
theorem ly25 : LY[25]? = some (.inl (0, 6, 0)) := rfl
theorem ly26 : LY[26]? = some (.inr (.inr (1, [some (some 27), some (some 33), some (some 37), none]))) := rfl
theorem ly27 : LY[27]? = some (.inr (.inr (2, [some (some 28), some (some 29), some (some 30), none, none, none, none, none]))) := rfl
theorem ly28 : LY[28]? = some (.inl (0, 7, 0)) := rfl
theorem ly29 : LY[29]? = some (.inl (0, 7, 0)) := rfl
theorem ly30 : LY[30]? = some (.inr (.inr (0, [some (some 31), some (some 32), none, none]))) := rfl
theorem ly31 : LY[31]? = some (.inl (0, 32, 0)) := rfl
theorem ly32 : LY[32]? = some (.inl (0, 32, 0)) := rfl
theorem ly33 : LY[33]? = some (.inr (.inr (4, [some (some 34), some (some 35), some (some 36), none]))) := rfl
theorem ly34 : LY[34]? = some (.inl (0, 8, 0)) := rfl
theorem ly35 : LY[35]? = some (.inl (0, 8, 0)) := rfl
theorem ly36 : LY[36]? = some (.inl (0, 8, 0)) := rfl
theorem ly37 : LY[37]? = some (.inl (0, 6, 0)) := rfl
theorem ly38 : LY[38]? = some (.inr (.inr (2, [some (some 39), some (some 40), some (some 41), none, none, none, none, none]))) := rfl
theorem ly39 : LY[39]? = some (.inl (0, 7, 0)) := rfl
theorem ly40 : LY[40]? = some (.inl (0, 7, 0)) := rfl
theorem ly41 : LY[41]? = some (.inr (.inr (0, [some (some 42), some (some 43), none, none]))) := rfl
theorem ly42 : LY[42]? = some (.inl (0, 32, 0)) := rfl
theorem ly43 : LY[43]? = some (.inl (0, 32, 0)) := rfl
theorem ly44 : LY[44]? = some (.inr (.inr (3, [some (some 45), none]))) := rfl
theorem ly45 : LY[45]? = some (.inl (0, 60, 0)) := rfl
theorem ly46 : LY[46]? = some (.inr (.inr (5, [none, none]))) := rfl
theorem ly47 : LY[47]? = some (.inl (0, 64, 0)) := rfl
theorem ly48 : LY[48]? = some (.inl (1, 7, 1)) := rfl
theorem ly49 : LY[49]? = some (.inr (.inr (7, [none, some (some 50), none, some (some 51), none, some (some 52), some (some 53), some (some 54), none, some (some 55), none, none, some (some 56), some (some 57), some (some 58), some (some 59), some (some 60)]))) := rfl
theorem ly50 : LY[50]? = some (.inl (0, 7, 0)) := rfl
theorem ly51 : LY[51]? = some (.inl (0, 6, 0)) := rfl
theorem ly52 : LY[52]? = some (.inl (0, 24, 0)) := rfl
theorem ly53 : LY[53]? = some (.inl (0, 107, 0)) := rfl
theorem ly54 : LY[54]? = some (.inl (0, 107, 0)) := rfl
theorem ly55 : LY[55]? = some (.inl (0, 60, 0)) := rfl
theorem ly56 : LY[56]? = some (.inl (0, 64, 0)) := rfl
theorem ly57 : LY[57]? = some (.inl (0, 10, 0)) := rfl
theorem ly58 : LY[58]? = some (.inl (0, 10, 0)) := rfl
theorem ly59 : LY[59]? = some (.inl (0, 300, 0)) := rfl
theorem ly60 : LY[60]? = some (.inl (2, 2, 0)) := rfl
