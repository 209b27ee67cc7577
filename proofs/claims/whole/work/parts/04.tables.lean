/-! tables, by program out of the task's words: methods, fields, calls, constants, with the places of their words in lw_tbl -/
def ax_nm (o : Nat) : String := match o with
  | 0 => "UpTheFlue$Bit"
  | 1 => "UpTheFlue$House"
  | 2 => "UpTheFlue$Law"
  | 3 => "UpTheFlue$Reader"
  | 4 => "UpTheFlue$Sheet"
  | 5 => "UpTheFlue"
  | 6 => "UpTheFlueModel"
  | 7 => "UpTheFlue$Sign"
  | 8 => "UpTheFlueLaw"
  | 9 => "java/lang/Math"
  | 10 => "java/lang/Integer"
  | 11 => "java/lang/String"
  | 12 => "java/lang/StringLatin1"
  | 13 => "java/lang/StringUTF16"
  | 14 => "jdk/internal/util/Preconditions"
  | 15 => "java/lang/System"
  | _ => "java/lang/Object"
abbrev jX6_init : Nat := 0
abbrev jX3_init : Nat := 1
abbrev jX2_init : Nat := 2
abbrev jX4_init : Nat := 3
abbrev jX3_write : Nat := 4
abbrev jJ0_length_8abf5 : Nat := 5
abbrev jJ0_charAt_5068e : Nat := 6
abbrev jX3_append : Nat := 7
abbrev jX3_read : Nat := 8
abbrev jX2_clear : Nat := 9
abbrev jX3_next : Nat := 10
abbrev jX3_skipBlanks : Nat := 11
abbrev jX3_byteAt : Nat := 12
abbrev jX3_isLetter : Nat := 13
abbrev jX3_readWord : Nat := 14
abbrev jX3_wordNumber : Nat := 15
abbrev jX3_isDigit : Nat := 16
abbrev jX3_readNumber : Nat := 17
abbrev jX5_ofByte : Nat := 18
abbrev jX3_readSaying : Nat := 19
abbrev jX2_addStep : Nat := 20
abbrev jX3_opens : Nat := 21
abbrev jX3_lastWaiting : Nat := 22
abbrev jX5_binds : Nat := 23
abbrev jX3_await : Nat := 24
abbrev jX3_settle : Nat := 25
abbrev jX3_closes : Nat := 26
abbrev jX3_joins : Nat := 27
abbrev jX5_joinsTwo : Nat := 28
abbrev jX2_endPart : Nat := 29
abbrev jX1_init : Nat := 30
abbrev jX6_count : Nat := 31
abbrev jX1_fireplaces : Nat := 32
abbrev jX1_fireplaceAt : Nat := 33
abbrev jX1_bitAt : Nat := 34
abbrev jX1_firstUnder : Nat := 35
abbrev jJ6_bitCount_0f7a4 : Nat := 36
abbrev jX1_pots : Nat := 37
abbrev jX6_feed : Nat := 38
abbrev jX6_in : Nat := 39
abbrev jX6_isByte : Nat := 40
abbrev jX6_text : Nat := 41
abbrev jX6_textAt : Nat := 42
abbrev jX6_force : Nat := 43
abbrev jX6_asks : Nat := 44
abbrev jX2_says : Nat := 45
abbrev jX0_isWide : Nat := 46
abbrev jX2_step : Nat := 47
abbrev jX2_joined : Nat := 48
abbrev jX6_bit : Nat := 49
abbrev jX1_isFull : Nat := 50
abbrev jX0_init : Nat := 51
abbrev jX1_add : Nat := 52
abbrev jX6_mend : Nat := 53
abbrev jX6_lay : Nat := 54
abbrev jX6_told : Nat := 55
abbrev jX6_numberOf : Nat := 56
abbrev jX0_leaks : Nat := 57
abbrev jX6_all : Nat := 58
abbrev jX6_flue : Nat := 59
abbrev jX0_last : Nat := 60
abbrev jX0_bitsUp : Nat := 61
abbrev jX1_fireplacesUnder : Nat := 62
abbrev jX0_rodsUpTo : Nat := 63
abbrev jX6_join : Nat := 64
abbrev jX0_firstUpIn : Nat := 65
abbrev jX6_rod : Nat := 66
abbrev jX0_reachedBy : Nat := 67
abbrev jX2_heavyBy : Nat := 68
abbrev jX6_push : Nat := 69
abbrev jX1_staysIn : Nat := 70
abbrev jX6_sweep : Nat := 71
abbrev jX1_brush : Nat := 72
abbrev jX0_left : Nat := 73
abbrev jX6_needs : Nat := 74
abbrev jX6_fire : Nat := 75
abbrev jX1_light : Nat := 76
abbrev jX0_grows : Nat := 77
abbrev jX0_isOne : Nat := 78
abbrev jX0_sootUp : Nat := 79
abbrev jX6_smoke : Nat := 80
abbrev jX6_draw : Nat := 81
abbrev jX0_drawUp : Nat := 82
abbrev jX6_smokes : Nat := 83
abbrev jX6_fine : Nat := 84
abbrev jX1_setSootAside : Nat := 85
abbrev jX1_fineBehindFire : Nat := 86
abbrev jX1_putSootBack : Nat := 87
abbrev jX6_when : Nat := 88
abbrev jX6_often : Nat := 89
abbrev jX1_staysBelow : Nat := 90
abbrev jX0_mostSootUp : Nat := 91
abbrev jX6_round : Nat := 92
abbrev jX1_bestRound : Nat := 93
abbrev jX1_gatherPlaces : Nat := 94
abbrev jX1_layOrder : Nat := 95
abbrev jX1_mostSootInRound : Nat := 96
abbrev jX1_mostSoot : Nat := 97
abbrev jX1_orderAsDigits : Nat := 98
abbrev jX6_ball : Nat := 99
abbrev jX6_judge : Nat := 100
abbrev jX6_sheetAt : Nat := 101
abbrev jX4_isMissing : Nat := 102
abbrev jX4_otherwise : Nat := 103
abbrev jX4_get : Nat := 104
abbrev jX4_has : Nat := 105
abbrev jX6_whose : Nat := 106
abbrev jX6_laws : Nat := 107
abbrev jX6_blocked : Nat := 108
abbrev jX4_tellsBlocked : Nat := 109
abbrev jX6_film : Nat := 110
abbrev jX4_become : Nat := 111
abbrev jX4_put : Nat := 112
abbrev jX6_drawn : Nat := 113
abbrev jX1_weighBurning : Nat := 114
abbrev jX1_firstBurning : Nat := 115
abbrev jX6_odds : Nat := 116
abbrev jX6_image : Nat := 117
abbrev jX1_keepImage : Nat := 118
abbrev jX6_back : Nat := 119
abbrev jX1_goBack : Nat := 120
abbrev jX6_sheet : Nat := 121
abbrev jX6_cell : Nat := 122
abbrev jX6_copy : Nat := 123
abbrev jX4_hasRun : Nat := 124
abbrev jX6_bitsBy : Nat := 125
abbrev jX6_taken : Nat := 126
abbrev jX7_init : Nat := 127
abbrev jX7_text : Nat := 128
abbrev jX7_next : Nat := 129
abbrev jX7_in : Nat := 130
abbrev jX7_wordFrom : Nat := 131
abbrev jX7_eRead : Nat := 132
abbrev jX7_puts : Nat := 133
abbrev jX7_unwinds : Nat := 134
abbrev jX7_rank : Nat := 135
abbrev jX7_opensOne : Nat := 136
abbrev jX7_holds : Nat := 137
abbrev jX7_signOf : Nat := 138
abbrev jX7_between : Nat := 139
abbrev jX7_count : Nat := 140
abbrev jX7_setOf : Nat := 141
abbrev jX7_isFireplace : Nat := 142
abbrev jX7_isBit : Nat := 143
abbrev jX7_isPot : Nat := 144
abbrev jX7_ones : Nat := 145
abbrev jX7_feed : Nat := 146
abbrev jX7_isByte : Nat := 147
abbrev jX7_force : Nat := 148
abbrev jX7_asks : Nat := 149
abbrev jX7_asksOf : Nat := 150
abbrev jX7_is : Nat := 151
abbrev jX7_within : Nat := 152
abbrev jX7_worth : Nat := 153
abbrev jX7_two : Nat := 154
abbrev jX7_bit : Nat := 155
abbrev jX7_mend : Nat := 156
abbrev jX7_isSo : Nat := 157
abbrev jX7_lay : Nat := 158
abbrev jX7_told : Nat := 159
abbrev jX7_leaks : Nat := 160
abbrev jX7_all : Nat := 161
abbrev jX7_flue : Nat := 162
abbrev jX7_lastOf : Nat := 163
abbrev jX7_flueOf : Nat := 164
abbrev jX7_fireplacesOf : Nat := 165
abbrev jX7_rodsOf : Nat := 166
abbrev jX7_join : Nat := 167
abbrev jX7_rod : Nat := 168
abbrev jX7_reached : Nat := 169
abbrev jX7_heavyAt : Nat := 170
abbrev jX7_heavy : Nat := 171
abbrev jX7_push : Nat := 172
abbrev jX7_staysIn : Nat := 173
abbrev jX7_sweep : Nat := 174
abbrev jX7_sweeps : Nat := 175
abbrev jX7_remains : Nat := 176
abbrev jX7_needs : Nat := 177
abbrev jX7_fire : Nat := 178
abbrev jX7_isFire : Nat := 179
abbrev jX7_burnsOnce : Nat := 180
abbrev jX7_grows : Nat := 181
abbrev jX7_sootOf : Nat := 182
abbrev jX7_smoke : Nat := 183
abbrev jX7_draw : Nat := 184
abbrev jX7_drawOf : Nat := 185
abbrev jX7_smokes : Nat := 186
abbrev jX7_fine : Nat := 187
abbrev jX7_keeps : Nat := 188
abbrev jX7_fineBehind : Nat := 189
abbrev jX7_laysBack : Nat := 190
abbrev jX7_when : Nat := 191
abbrev jX7_often : Nat := 192
abbrev jX7_keepsBelow : Nat := 193
abbrev jX7_round : Nat := 194
abbrev jX7_orders : Nat := 195
abbrev jX7_goesRound : Nat := 196
abbrev jX7_mostSoot : Nat := 197
abbrev jX7_ball : Nat := 198
abbrev jX7_below : Nat := 199
abbrev jX7_judge : Nat := 200
abbrev jX7_toldWrong : Nat := 201
abbrev jX7_sheetWrong : Nat := 202
abbrev jX7_unlike : Nat := 203
abbrev jX7_whose : Nat := 204
abbrev jX7_laws : Nat := 205
abbrev jX7_blocked : Nat := 206
abbrev jX7_fitsBlocked : Nat := 207
abbrev jX7_film : Nat := 208
abbrev jX7_drawn : Nat := 209
abbrev jX7_isYear : Nat := 210
abbrev jX7_firstBurns : Nat := 211
abbrev jX7_odds : Nat := 212
abbrev jX7_lowest : Nat := 213
abbrev jX7_image : Nat := 214
abbrev jX7_back : Nat := 215
abbrev jX7_sheet : Nat := 216
abbrev jX7_cell : Nat := 217
abbrev jX7_copy : Nat := 218
abbrev jX7_bitsBy : Nat := 219
abbrev jX7_taken : Nat := 220
abbrev jX7_isUnder : Nat := 221
def ax_mT : List (MethodName × (ByteArray × (Nat × (Option FieldType × (Nat × (Nat × (Nat × (Nat × (Nat × Nat))))))))) := [
  (yX6_init, cX6_init, 2, (Option.none : Option FieldType), 0, 2, 85, 84, 0, 66),
  (yX3_init, cX3_init, 1, (Option.none : Option FieldType), 0, 2, 93, 92, 0, 67),
  (yX2_init, cX2_init, 1, (Option.none : Option FieldType), 0, 2, 132, 131, 0, 68),
  (yX4_init, cX4_init, 1, (Option.none : Option FieldType), 0, 2, 153, 152, 0, 69),
  (yX3_write, cX3_write, 3, (Option.none : Option FieldType), 1, 1, 171, 169, 170, 67),
  (yJ0_length_8abf5, cJ0_length_8abf5, 1, (Option.some FieldType.int), 0, 1, 175, 173, 174, 70),
  (yJ0_charAt_5068e, cJ0_charAt_5068e, 2, (Option.some FieldType.char), 1, 1, 185, 183, 184, 70),
  (yX3_append, cX3_append, 2, (Option.none : Option FieldType), 1, 1, 223, 221, 222, 67),
  (yX3_read, cX3_read, 4, (Option.some FieldType.int), 1, 1, 227, 225, 226, 67),
  (yX2_clear, cX2_clear, 1, (Option.none : Option FieldType), 0, 1, 231, 229, 230, 68),
  (yX3_next, cX3_next, 2, (Option.none : Option FieldType), 0, 1, 235, 234, 0, 67),
  (yX3_skipBlanks, cX3_skipBlanks, 2, (Option.none : Option FieldType), 0, 1, 239, 238, 1, 67),
  (yX3_byteAt, cX3_byteAt, 2, (Option.some FieldType.int), 1, 1, 243, 242, 2, 67),
  (yX3_isLetter, cX3_isLetter, 1, (Option.some FieldType.boolean), 1, 0, 246, 245, 0, 67),
  (yX3_readWord, cX3_readWord, 2, (Option.none : Option FieldType), 0, 1, 250, 249, 3, 67),
  (yX3_wordNumber, cX3_wordNumber, 5, (Option.some FieldType.int), 0, 1, 254, 253, 4, 67),
  (yX3_isDigit, cX3_isDigit, 1, (Option.some FieldType.boolean), 1, 0, 258, 257, 0, 67),
  (yX3_readNumber, cX3_readNumber, 2, (Option.none : Option FieldType), 0, 1, 262, 261, 5, 67),
  (yX5_ofByte, cX5_ofByte, 1, (Option.some FieldType.int), 1, 0, 265, 264, 0, 74),
  (yX3_readSaying, cX3_readSaying, 4, (Option.some FieldType.boolean), 1, 1, 269, 268, 6, 67),
  (yX2_addStep, cX2_addStep, 3, (Option.none : Option FieldType), 2, 1, 273, 271, 272, 68),
  (yX3_opens, cX3_opens, 2, (Option.some FieldType.boolean), 0, 1, 277, 276, 7, 67),
  (yX3_lastWaiting, cX3_lastWaiting, 1, (Option.some FieldType.int), 0, 1, 281, 280, 8, 67),
  (yX5_binds, cX5_binds, 1, (Option.some FieldType.int), 1, 0, 284, 283, 0, 74),
  (yX3_await, cX3_await, 2, (Option.none : Option FieldType), 1, 1, 288, 287, 9, 67),
  (yX3_settle, cX3_settle, 5, (Option.none : Option FieldType), 2, 1, 292, 291, 10, 67),
  (yX3_closes, cX3_closes, 2, (Option.some FieldType.boolean), 1, 1, 296, 295, 11, 67),
  (yX3_joins, cX3_joins, 3, (Option.some FieldType.boolean), 1, 1, 300, 299, 12, 67),
  (yX5_joinsTwo, cX5_joinsTwo, 1, (Option.some FieldType.boolean), 1, 0, 303, 302, 0, 74),
  (yX2_endPart, cX2_endPart, 2, (Option.none : Option FieldType), 1, 1, 307, 305, 306, 68),
  (yX1_init, cX1_init, 2, (Option.none : Option FieldType), 1, 2, 312, 311, 0, 75),
  (yX6_count, cX6_count, 2, (Option.some FieldType.int), 1, 1, 366, 364, 365, 66),
  (yX1_fireplaces, cX1_fireplaces, 3, (Option.some FieldType.int), 0, 1, 370, 368, 369, 75),
  (yX1_fireplaceAt, cX1_fireplaceAt, 3, (Option.some (FieldType.object "UpTheFlue$Bit")), 1, 1, 374, 372, 373, 75),
  (yX1_bitAt, cX1_bitAt, 2, (Option.some (FieldType.object "UpTheFlue$Bit")), 1, 1, 378, 376, 377, 75),
  (yX1_firstUnder, cX1_firstUnder, 4, (Option.some (FieldType.object "UpTheFlue$Bit")), 1, 1, 382, 380, 381, 75),
  (yJ6_bitCount_0f7a4, cJ6_bitCount_0f7a4, 1, (Option.some FieldType.int), 1, 0, 385, 384, 0, 77),
  (yX1_pots, cX1_pots, 4, (Option.some FieldType.int), 0, 1, 392, 390, 391, 75),
  (yX6_feed, cX6_feed, 8, (Option.some FieldType.int), 6, 1, 396, 394, 395, 66),
  (yX6_in, cX6_in, 3, (Option.some FieldType.boolean), 3, 0, 399, 398, 0, 66),
  (yX6_isByte, cX6_isByte, 1, (Option.some FieldType.boolean), 1, 0, 402, 401, 0, 66),
  (yX6_text, cX6_text, 3, (Option.some FieldType.int), 0, 1, 407, 405, 406, 66),
  (yX6_textAt, cX6_textAt, 3, (Option.some (FieldType.object "UpTheFlue$Law")), 2, 1, 411, 410, 13, 66),
  (yX6_force, cX6_force, 4, (Option.some FieldType.int), 1, 1, 415, 413, 414, 66),
  (yX6_asks, cX6_asks, 6, (Option.some FieldType.int), 4, 1, 419, 417, 418, 66),
  (yX2_says, cX2_says, 6, (Option.some FieldType.int), 3, 1, 424, 422, 423, 68),
  (yX0_isWide, cX0_isWide, 2, (Option.some FieldType.int), 0, 1, 428, 426, 427, 79),
  (yX2_step, cX2_step, 6, (Option.some FieldType.int), 3, 1, 435, 434, 14, 68),
  (yX2_joined, cX2_joined, 3, (Option.some FieldType.int), 3, 0, 438, 437, 0, 68),
  (yX6_bit, cX6_bit, 5, (Option.some FieldType.int), 4, 1, 446, 444, 445, 66),
  (yX1_isFull, cX1_isFull, 1, (Option.some FieldType.boolean), 0, 1, 450, 448, 449, 75),
  (yX0_init, cX0_init, 6, (Option.none : Option FieldType), 5, 2, 455, 454, 0, 79),
  (yX1_add, cX1_add, 2, (Option.some FieldType.int), 1, 1, 515, 513, 514, 75),
  (yX6_mend, cX6_mend, 6, (Option.some FieldType.int), 3, 1, 520, 518, 519, 66),
  (yX6_lay, cX6_lay, 5, (Option.some FieldType.int), 2, 1, 524, 522, 523, 66),
  (yX6_told, cX6_told, 4, (Option.some FieldType.int), 2, 1, 528, 526, 527, 66),
  (yX6_numberOf, cX6_numberOf, 1, (Option.some FieldType.int), 1, 0, 531, 530, 0, 66),
  (yX0_leaks, cX0_leaks, 1, (Option.some FieldType.int), 0, 1, 536, 534, 535, 79),
  (yX6_all, cX6_all, 2, (Option.some FieldType.int), 1, 1, 540, 538, 539, 66),
  (yX6_flue, cX6_flue, 4, (Option.some FieldType.int), 2, 1, 544, 542, 543, 66),
  (yX0_last, cX0_last, 3, (Option.some (FieldType.object "UpTheFlue$Bit")), 0, 1, 548, 546, 547, 79),
  (yX0_bitsUp, cX0_bitsUp, 3, (Option.some FieldType.int), 0, 1, 552, 550, 551, 79),
  (yX1_fireplacesUnder, cX1_fireplacesUnder, 5, (Option.some FieldType.int), 1, 1, 556, 554, 555, 75),
  (yX0_rodsUpTo, cX0_rodsUpTo, 4, (Option.some FieldType.int), 1, 1, 561, 559, 560, 79),
  (yX6_join, cX6_join, 5, (Option.some FieldType.int), 2, 1, 565, 563, 564, 66),
  (yX0_firstUpIn, cX0_firstUpIn, 3, (Option.some (FieldType.object "UpTheFlue$Bit")), 1, 1, 569, 567, 568, 79),
  (yX6_rod, cX6_rod, 5, (Option.some FieldType.int), 3, 1, 573, 571, 572, 66),
  (yX0_reachedBy, cX0_reachedBy, 4, (Option.some (FieldType.object "UpTheFlue$Bit")), 1, 1, 578, 576, 577, 79),
  (yX2_heavyBy, cX2_heavyBy, 4, (Option.some FieldType.int), 2, 1, 582, 580, 581, 68),
  (yX6_push, cX6_push, 6, (Option.some FieldType.int), 3, 1, 588, 586, 587, 66),
  (yX1_staysIn, cX1_staysIn, 4, (Option.some (FieldType.object "UpTheFlue$Bit")), 2, 1, 592, 590, 591, 75),
  (yX6_sweep, cX6_sweep, 4, (Option.some FieldType.int), 2, 1, 598, 596, 597, 66),
  (yX1_brush, cX1_brush, 7, (Option.some FieldType.int), 2, 1, 602, 600, 601, 75),
  (yX0_left, cX0_left, 1, (Option.some FieldType.int), 0, 1, 607, 605, 606, 79),
  (yX6_needs, cX6_needs, 5, (Option.some FieldType.int), 1, 1, 611, 609, 610, 66),
  (yX6_fire, cX6_fire, 6, (Option.some FieldType.int), 3, 1, 616, 614, 615, 66),
  (yX1_light, cX1_light, 5, (Option.none : Option FieldType), 2, 1, 620, 618, 619, 75),
  (yX0_grows, cX0_grows, 2, (Option.some FieldType.int), 1, 1, 624, 622, 623, 79),
  (yX0_isOne, cX0_isOne, 2, (Option.some FieldType.boolean), 1, 1, 628, 626, 627, 79),
  (yX0_sootUp, cX0_sootUp, 3, (Option.some FieldType.int), 0, 1, 633, 631, 632, 79),
  (yX6_smoke, cX6_smoke, 10, (Option.some FieldType.int), 3, 1, 637, 635, 636, 66),
  (yX6_draw, cX6_draw, 4, (Option.some FieldType.int), 2, 1, 641, 639, 640, 66),
  (yX0_drawUp, cX0_drawUp, 3, (Option.some FieldType.int), 0, 1, 646, 644, 645, 79),
  (yX6_smokes, cX6_smokes, 5, (Option.some FieldType.int), 1, 1, 651, 649, 650, 66),
  (yX6_fine, cX6_fine, 8, (Option.some FieldType.long), 3, 1, 655, 653, 654, 66),
  (yX1_setSootAside, cX1_setSootAside, 3, (Option.none : Option FieldType), 0, 1, 661, 659, 660, 75),
  (yX1_fineBehindFire, cX1_fineBehindFire, 8, (Option.some FieldType.long), 3, 1, 665, 663, 664, 75),
  (yX1_putSootBack, cX1_putSootBack, 3, (Option.none : Option FieldType), 0, 1, 671, 669, 670, 75),
  (yX6_when, cX6_when, 11, (Option.some FieldType.int), 3, 1, 675, 673, 674, 66),
  (yX6_often, cX6_often, 8, (Option.some FieldType.int), 4, 1, 680, 678, 679, 66),
  (yX1_staysBelow, cX1_staysBelow, 8, (Option.some FieldType.boolean), 5, 1, 684, 682, 683, 75),
  (yX0_mostSootUp, cX0_mostSootUp, 3, (Option.some FieldType.int), 0, 1, 688, 686, 687, 79),
  (yX6_round, cX6_round, 5, (Option.some FieldType.int), 3, 1, 693, 691, 692, 66),
  (yX1_bestRound, cX1_bestRound, 8, (Option.some FieldType.int), 2, 1, 697, 695, 696, 75),
  (yX1_gatherPlaces, cX1_gatherPlaces, 4, (Option.some FieldType.int), 0, 1, 701, 700, 15, 75),
  (yX1_layOrder, cX1_layOrder, 7, (Option.some FieldType.boolean), 2, 1, 706, 705, 16, 75),
  (yX1_mostSootInRound, cX1_mostSootInRound, 7, (Option.some FieldType.int), 3, 1, 710, 709, 17, 75),
  (yX1_mostSoot, cX1_mostSoot, 4, (Option.some FieldType.int), 0, 1, 715, 714, 18, 75),
  (yX1_orderAsDigits, cX1_orderAsDigits, 4, (Option.some FieldType.int), 1, 1, 721, 720, 19, 75),
  (yX6_ball, cX6_ball, 9, (Option.some FieldType.int), 3, 1, 726, 724, 725, 66),
  (yX6_judge, cX6_judge, 5, (Option.some FieldType.int), 2, 1, 731, 729, 730, 66),
  (yX6_sheetAt, cX6_sheetAt, 2, (Option.some (FieldType.object "UpTheFlue$Sheet")), 1, 1, 735, 734, 20, 66),
  (yX4_isMissing, cX4_isMissing, 1, (Option.some FieldType.boolean), 0, 1, 739, 737, 738, 69),
  (yX4_otherwise, cX4_otherwise, 4, (Option.some FieldType.int), 2, 1, 743, 741, 742, 69),
  (yX4_get, cX4_get, 2, (Option.some FieldType.int), 1, 1, 747, 745, 746, 69),
  (yX4_has, cX4_has, 2, (Option.some FieldType.boolean), 1, 1, 751, 749, 750, 69),
  (yX6_whose, cX6_whose, 6, (Option.some FieldType.int), 1, 1, 756, 754, 755, 66),
  (yX6_laws, cX6_laws, 8, (Option.some FieldType.int), 2, 1, 760, 758, 759, 66),
  (yX6_blocked, cX6_blocked, 10, (Option.some FieldType.int), 3, 1, 764, 762, 763, 66),
  (yX4_tellsBlocked, cX4_tellsBlocked, 8, (Option.some FieldType.boolean), 4, 1, 768, 766, 767, 69),
  (yX6_film, cX6_film, 7, (Option.some FieldType.int), 3, 1, 773, 771, 772, 66),
  (yX4_become, cX4_become, 4, (Option.none : Option FieldType), 2, 1, 777, 775, 776, 69),
  (yX4_put, cX4_put, 3, (Option.none : Option FieldType), 2, 1, 783, 781, 782, 69),
  (yX6_drawn, cX6_drawn, 6, (Option.some FieldType.int), 4, 1, 787, 785, 786, 66),
  (yX1_weighBurning, cX1_weighBurning, 7, (Option.none : Option FieldType), 3, 1, 792, 790, 791, 75),
  (yX1_firstBurning, cX1_firstBurning, 10, (Option.some FieldType.int), 3, 1, 796, 794, 795, 75),
  (yX6_odds, cX6_odds, 10, (Option.some FieldType.long), 5, 1, 802, 800, 801, 66),
  (yX6_image, cX6_image, 1, (Option.some FieldType.int), 0, 1, 806, 804, 805, 66),
  (yX1_keepImage, cX1_keepImage, 3, (Option.none : Option FieldType), 0, 1, 810, 808, 809, 75),
  (yX6_back, cX6_back, 2, (Option.some FieldType.int), 0, 1, 814, 812, 813, 66),
  (yX1_goBack, cX1_goBack, 3, (Option.none : Option FieldType), 0, 1, 818, 816, 817, 75),
  (yX6_sheet, cX6_sheet, 5, (Option.some FieldType.int), 3, 1, 822, 820, 821, 66),
  (yX6_cell, cX6_cell, 5, (Option.some FieldType.int), 3, 1, 826, 824, 825, 66),
  (yX6_copy, cX6_copy, 8, (Option.some FieldType.int), 5, 1, 831, 829, 830, 66),
  (yX4_hasRun, cX4_hasRun, 3, (Option.some FieldType.boolean), 2, 1, 835, 833, 834, 69),
  (yX6_bitsBy, cX6_bitsBy, 10, (Option.some FieldType.int), 4, 1, 842, 840, 841, 66),
  (yX6_taken, cX6_taken, 5, (Option.some FieldType.int), 2, 1, 848, 846, 847, 66),
  (yX7_init, cX7_init, 2, (Option.none : Option FieldType), 0, 2, 854, 853, 0, 76),
  (yX7_text, cX7_text, 3, (Option.some FieldType.int), 0, 1, 859, 857, 858, 76),
  (yX7_next, cX7_next, 3, (Option.none : Option FieldType), 0, 1, 863, 862, 21, 76),
  (yX7_in, cX7_in, 3, (Option.some FieldType.boolean), 3, 0, 866, 865, 0, 76),
  (yX7_wordFrom, cX7_wordFrom, 6, (Option.some FieldType.int), 2, 1, 870, 869, 22, 76),
  (yX7_eRead, cX7_eRead, 4, (Option.some FieldType.boolean), 0, 1, 874, 873, 23, 76),
  (yX7_puts, cX7_puts, 2, (Option.none : Option FieldType), 1, 1, 879, 878, 24, 76),
  (yX7_unwinds, cX7_unwinds, 3, (Option.none : Option FieldType), 1, 1, 883, 882, 25, 76),
  (yX7_rank, cX7_rank, 1, (Option.some FieldType.int), 1, 0, 886, 885, 0, 76),
  (yX7_opensOne, cX7_opensOne, 2, (Option.some FieldType.boolean), 1, 1, 890, 889, 26, 76),
  (yX7_holds, cX7_holds, 2, (Option.none : Option FieldType), 1, 1, 894, 893, 27, 76),
  (yX7_signOf, cX7_signOf, 1, (Option.some FieldType.int), 0, 1, 898, 897, 28, 76),
  (yX7_between, cX7_between, 2, (Option.some FieldType.boolean), 1, 1, 902, 901, 29, 76),
  (yX7_count, cX7_count, 2, (Option.some FieldType.int), 1, 1, 1024, 1022, 1023, 76),
  (yX7_setOf, cX7_setOf, 5, (Option.some FieldType.int), 1, 1, 1028, 1027, 30, 76),
  (yX7_isFireplace, cX7_isFireplace, 4, (Option.some FieldType.boolean), 1, 1, 1032, 1031, 31, 76),
  (yX7_isBit, cX7_isBit, 2, (Option.some FieldType.boolean), 1, 1, 1036, 1035, 32, 76),
  (yX7_isPot, cX7_isPot, 2, (Option.some FieldType.boolean), 1, 1, 1040, 1039, 33, 76),
  (yX7_ones, cX7_ones, 3, (Option.some FieldType.int), 1, 0, 1043, 1042, 0, 76),
  (yX7_feed, cX7_feed, 8, (Option.some FieldType.int), 6, 1, 1047, 1045, 1046, 76),
  (yX7_isByte, cX7_isByte, 1, (Option.some FieldType.boolean), 1, 0, 1050, 1049, 0, 76),
  (yX7_force, cX7_force, 3, (Option.some FieldType.int), 1, 1, 1055, 1053, 1054, 76),
  (yX7_asks, cX7_asks, 5, (Option.some FieldType.int), 4, 1, 1059, 1057, 1058, 76),
  (yX7_asksOf, cX7_asksOf, 5, (Option.some FieldType.int), 4, 1, 1063, 1062, 34, 76),
  (yX7_is, cX7_is, 4, (Option.some FieldType.int), 1, 1, 1067, 1066, 35, 76),
  (yX7_within, cX7_within, 3, (Option.some FieldType.int), 3, 0, 1070, 1069, 0, 76),
  (yX7_worth, cX7_worth, 5, (Option.some FieldType.int), 1, 1, 1074, 1073, 36, 76),
  (yX7_two, cX7_two, 3, (Option.some FieldType.int), 3, 0, 1077, 1076, 0, 76),
  (yX7_bit, cX7_bit, 6, (Option.some FieldType.int), 4, 1, 1081, 1079, 1080, 76),
  (yX7_mend, cX7_mend, 5, (Option.some FieldType.int), 3, 1, 1085, 1083, 1084, 76),
  (yX7_isSo, cX7_isSo, 2, (Option.some FieldType.boolean), 2, 0, 1088, 1087, 0, 76),
  (yX7_lay, cX7_lay, 4, (Option.some FieldType.int), 2, 1, 1092, 1090, 1091, 76),
  (yX7_told, cX7_told, 3, (Option.some FieldType.int), 2, 1, 1096, 1094, 1095, 76),
  (yX7_leaks, cX7_leaks, 2, (Option.some FieldType.int), 1, 1, 1100, 1099, 37, 76),
  (yX7_all, cX7_all, 2, (Option.some FieldType.int), 1, 1, 1104, 1102, 1103, 76),
  (yX7_flue, cX7_flue, 3, (Option.some FieldType.int), 2, 1, 1108, 1106, 1107, 76),
  (yX7_lastOf, cX7_lastOf, 3, (Option.some FieldType.int), 1, 1, 1112, 1111, 38, 76),
  (yX7_flueOf, cX7_flueOf, 4, (Option.some FieldType.int), 1, 1, 1116, 1115, 39, 76),
  (yX7_fireplacesOf, cX7_fireplacesOf, 4, (Option.some FieldType.int), 1, 1, 1120, 1119, 40, 76),
  (yX7_rodsOf, cX7_rodsOf, 4, (Option.some FieldType.int), 1, 1, 1124, 1123, 41, 76),
  (yX7_join, cX7_join, 5, (Option.some FieldType.int), 2, 1, 1128, 1126, 1127, 76),
  (yX7_rod, cX7_rod, 4, (Option.some FieldType.int), 3, 1, 1132, 1130, 1131, 76),
  (yX7_reached, cX7_reached, 5, (Option.some FieldType.int), 2, 1, 1136, 1135, 42, 76),
  (yX7_heavyAt, cX7_heavyAt, 4, (Option.some FieldType.int), 2, 1, 1140, 1139, 43, 76),
  (yX7_heavy, cX7_heavy, 2, (Option.some FieldType.int), 1, 1, 1144, 1143, 44, 76),
  (yX7_push, cX7_push, 5, (Option.some FieldType.int), 3, 1, 1148, 1146, 1147, 76),
  (yX7_staysIn, cX7_staysIn, 4, (Option.some FieldType.int), 2, 1, 1152, 1151, 45, 76),
  (yX7_sweep, cX7_sweep, 3, (Option.some FieldType.int), 2, 1, 1156, 1154, 1155, 76),
  (yX7_sweeps, cX7_sweeps, 7, (Option.some FieldType.int), 2, 1, 1160, 1159, 46, 76),
  (yX7_remains, cX7_remains, 2, (Option.some FieldType.int), 1, 1, 1164, 1163, 47, 76),
  (yX7_needs, cX7_needs, 4, (Option.some FieldType.int), 1, 1, 1168, 1166, 1167, 76),
  (yX7_fire, cX7_fire, 5, (Option.some FieldType.int), 3, 1, 1172, 1170, 1171, 76),
  (yX7_isFire, cX7_isFire, 1, (Option.some FieldType.boolean), 1, 0, 1175, 1174, 0, 76),
  (yX7_burnsOnce, cX7_burnsOnce, 4, (Option.none : Option FieldType), 2, 1, 1179, 1178, 48, 76),
  (yX7_grows, cX7_grows, 5, (Option.some FieldType.int), 2, 1, 1183, 1182, 49, 76),
  (yX7_sootOf, cX7_sootOf, 4, (Option.some FieldType.int), 1, 1, 1187, 1186, 50, 76),
  (yX7_smoke, cX7_smoke, 8, (Option.some FieldType.int), 3, 1, 1191, 1189, 1190, 76),
  (yX7_draw, cX7_draw, 3, (Option.some FieldType.int), 2, 1, 1195, 1193, 1194, 76),
  (yX7_drawOf, cX7_drawOf, 5, (Option.some FieldType.int), 2, 1, 1199, 1198, 51, 76),
  (yX7_smokes, cX7_smokes, 4, (Option.some FieldType.int), 1, 1, 1204, 1202, 1203, 76),
  (yX7_fine, cX7_fine, 7, (Option.some FieldType.long), 3, 1, 1208, 1206, 1207, 76),
  (yX7_keeps, cX7_keeps, 2, (Option.none : Option FieldType), 0, 1, 1214, 1213, 52, 76),
  (yX7_fineBehind, cX7_fineBehind, 8, (Option.some FieldType.long), 3, 1, 1218, 1217, 53, 76),
  (yX7_laysBack, cX7_laysBack, 2, (Option.none : Option FieldType), 0, 1, 1223, 1222, 54, 76),
  (yX7_when, cX7_when, 8, (Option.some FieldType.int), 3, 1, 1227, 1225, 1226, 76),
  (yX7_often, cX7_often, 6, (Option.some FieldType.int), 4, 1, 1232, 1230, 1231, 76),
  (yX7_keepsBelow, cX7_keepsBelow, 9, (Option.some FieldType.boolean), 5, 1, 1236, 1235, 55, 76),
  (yX7_round, cX7_round, 5, (Option.some FieldType.int), 3, 1, 1240, 1238, 1239, 76),
  (yX7_orders, cX7_orders, 7, (Option.none : Option FieldType), 5, 1, 1244, 1243, 56, 76),
  (yX7_goesRound, cX7_goesRound, 7, (Option.none : Option FieldType), 3, 1, 1248, 1247, 57, 76),
  (yX7_mostSoot, cX7_mostSoot, 3, (Option.some FieldType.int), 0, 1, 1252, 1251, 58, 76),
  (yX7_ball, cX7_ball, 7, (Option.some FieldType.int), 3, 1, 1256, 1254, 1255, 76),
  (yX7_below, cX7_below, 3, (Option.some FieldType.int), 1, 1, 1260, 1259, 59, 76),
  (yX7_judge, cX7_judge, 4, (Option.some FieldType.int), 2, 1, 1264, 1262, 1263, 76),
  (yX7_toldWrong, cX7_toldWrong, 4, (Option.some FieldType.int), 2, 1, 1268, 1267, 60, 76),
  (yX7_sheetWrong, cX7_sheetWrong, 2, (Option.some FieldType.int), 1, 1, 1272, 1271, 61, 76),
  (yX7_unlike, cX7_unlike, 4, (Option.some FieldType.int), 2, 1, 1276, 1275, 62, 76),
  (yX7_whose, cX7_whose, 5, (Option.some FieldType.int), 1, 1, 1280, 1278, 1279, 76),
  (yX7_laws, cX7_laws, 7, (Option.some FieldType.int), 2, 1, 1284, 1282, 1283, 76),
  (yX7_blocked, cX7_blocked, 9, (Option.some FieldType.int), 3, 1, 1288, 1286, 1287, 76),
  (yX7_fitsBlocked, cX7_fitsBlocked, 8, (Option.some FieldType.boolean), 4, 1, 1292, 1291, 63, 76),
  (yX7_film, cX7_film, 5, (Option.some FieldType.int), 3, 1, 1296, 1294, 1295, 76),
  (yX7_drawn, cX7_drawn, 5, (Option.some FieldType.int), 4, 1, 1300, 1298, 1299, 76),
  (yX7_isYear, cX7_isYear, 3, (Option.some FieldType.boolean), 3, 0, 1303, 1302, 0, 76),
  (yX7_firstBurns, cX7_firstBurns, 11, (Option.some FieldType.int), 4, 1, 1308, 1307, 64, 76),
  (yX7_odds, cX7_odds, 9, (Option.some FieldType.long), 5, 1, 1314, 1312, 1313, 76),
  (yX7_lowest, cX7_lowest, 11, (Option.some FieldType.long), 3, 0, 1318, 1317, 0, 76),
  (yX7_image, cX7_image, 2, (Option.some FieldType.int), 0, 1, 1322, 1320, 1321, 76),
  (yX7_back, cX7_back, 2, (Option.some FieldType.int), 0, 1, 1326, 1324, 1325, 76),
  (yX7_sheet, cX7_sheet, 5, (Option.some FieldType.int), 3, 1, 1330, 1328, 1329, 76),
  (yX7_cell, cX7_cell, 4, (Option.some FieldType.int), 3, 1, 1334, 1332, 1333, 76),
  (yX7_copy, cX7_copy, 10, (Option.some FieldType.int), 5, 1, 1338, 1336, 1337, 76),
  (yX7_bitsBy, cX7_bitsBy, 9, (Option.some FieldType.int), 4, 1, 1342, 1340, 1341, 76),
  (yX7_taken, cX7_taken, 4, (Option.some FieldType.int), 2, 1, 1347, 1345, 1346, 76),
  (yX7_isUnder, cX7_isUnder, 2, (Option.some FieldType.boolean), 2, 0, 1350, 1349, 0, 76)]
abbrev ax_md : MethodName × (ByteArray × (Nat × (Option FieldType × (Nat × (Nat × (Nat × (Nat × (Nat × Nat)))))))) := (⟨"", "", ""⟩, ⟨#[]⟩, 0, none, 0, 9, 0, 0, 0, 0)
def ax_mt (j : Nat) := (ax_mT[j]?).getD ax_md
def ax_y (j : Nat) : MethodName := (ax_mt j).1
def ax_cc (j : Nat) : ByteArray := (ax_mt j).2.1
def ax_nL (j : Nat) : Nat := (ax_mt j).2.2.1
def ax_ret (j : Nat) : Option FieldType := (ax_mt j).2.2.2.1
def ax_na (j : Nat) : Nat := (ax_mt j).2.2.2.2.1
def ax_kd (j : Nat) : Nat := (ax_mt j).2.2.2.2.2.1
/-- own class and pool place, class, slot, kind (int, boolean, reference), final, place of the word -/
def ax_fT : List ((Nat × Nat) × (Nat × (Nat × (Nat × Bool))) × Nat) := [
  ((3, 18), (3, 0, 0, false), 95),
  ((5, 75), (3, 0, 0, false), 96),
  ((3, 9), (3, 1, 2, true), 97),
  ((3, 41), (3, 2, 0, false), 98),
  ((3, 62), (3, 3, 0, false), 99),
  ((3, 47), (3, 4, 0, false), 100),
  ((3, 52), (3, 5, 0, false), 101),
  ((3, 15), (3, 6, 2, true), 102),
  ((3, 65), (3, 7, 0, false), 103),
  ((3, 68), (3, 8, 0, false), 104),
  ((2, 9), (2, 0, 2, true), 134),
  ((2, 15), (2, 1, 2, true), 135),
  ((2, 18), (2, 2, 2, true), 136),
  ((2, 23), (2, 3, 2, true), 137),
  ((2, 26), (2, 4, 0, false), 138),
  ((4, 9), (4, 0, 0, false), 155),
  ((5, 269), (4, 0, 0, false), 156),
  ((4, 19), (4, 1, 0, false), 157),
  ((4, 15), (4, 2, 2, true), 158),
  ((5, 276), (4, 2, 2, true), 159),
  ((1, 27), (1, 0, 2, false), 316),
  ((5, 92), (1, 0, 2, false), 317),
  ((1, 31), (1, 1, 0, false), 318),
  ((5, 59), (1, 1, 0, false), 319),
  ((1, 67), (1, 2, 0, false), 320),
  ((1, 11), (1, 3, 2, true), 321),
  ((1, 17), (1, 4, 2, true), 322),
  ((1, 20), (1, 5, 2, true), 323),
  ((1, 23), (1, 6, 2, true), 324),
  ((5, 55), (5, 0, 2, true), 341),
  ((5, 10), (5, 1, 2, true), 342),
  ((5, 18), (5, 2, 2, true), 343),
  ((5, 24), (5, 3, 2, true), 344),
  ((5, 28), (5, 4, 0, false), 345),
  ((5, 32), (5, 5, 0, false), 346),
  ((5, 35), (5, 6, 0, false), 347),
  ((0, 9), (0, 0, 0, true), 457),
  ((1, 51), (0, 0, 0, true), 458),
  ((5, 226), (0, 0, 0, true), 459),
  ((0, 15), (0, 1, 2, true), 460),
  ((1, 43), (0, 1, 2, true), 461),
  ((5, 126), (0, 1, 2, true), 462),
  ((0, 22), (0, 2, 0, true), 463),
  ((5, 133), (0, 2, 0, true), 464),
  ((0, 25), (0, 3, 0, true), 465),
  ((5, 136), (0, 3, 0, true), 466),
  ((0, 28), (0, 4, 0, true), 467),
  ((2, 47), (0, 4, 0, true), 468),
  ((5, 139), (0, 4, 0, true), 469),
  ((0, 19), (0, 5, 0, false), 470),
  ((5, 117), (0, 5, 0, false), 471),
  ((4, 45), (0, 5, 0, false), 472),
  ((1, 70), (0, 5, 0, false), 473),
  ((0, 31), (0, 6, 0, false), 474),
  ((2, 50), (0, 6, 0, false), 475),
  ((5, 120), (0, 6, 0, false), 476),
  ((4, 50), (0, 6, 0, false), 477),
  ((1, 76), (0, 6, 0, false), 478),
  ((0, 38), (0, 7, 0, false), 479),
  ((2, 40), (0, 7, 0, false), 480),
  ((5, 123), (0, 7, 0, false), 481),
  ((1, 61), (0, 7, 0, false), 482),
  ((1, 73), (0, 8, 0, false), 483),
  ((1, 79), (0, 9, 0, false), 484),
  ((1, 82), (0, 10, 0, false), 485),
  ((1, 64), (0, 11, 0, false), 486),
  ((6, 84), (6, 0, 0, false), 903),
  ((6, 7), (6, 1, 2, true), 904),
  ((6, 13), (6, 2, 2, true), 905),
  ((6, 16), (6, 3, 2, true), 906),
  ((6, 19), (6, 4, 2, true), 907),
  ((6, 22), (6, 5, 2, true), 908),
  ((6, 25), (6, 6, 2, true), 909),
  ((6, 28), (6, 7, 2, true), 910),
  ((6, 31), (6, 8, 2, true), 911),
  ((6, 76), (6, 9, 0, false), 912),
  ((6, 34), (6, 10, 2, true), 913),
  ((6, 37), (6, 11, 2, true), 914),
  ((6, 108), (6, 12, 0, false), 915),
  ((6, 111), (6, 13, 0, false), 916),
  ((6, 318), (6, 14, 1, false), 917),
  ((6, 322), (6, 15, 0, false), 918),
  ((6, 325), (6, 16, 0, false), 919),
  ((6, 40), (6, 17, 2, true), 920),
  ((6, 43), (6, 18, 2, true), 921),
  ((6, 46), (6, 19, 2, true), 922),
  ((6, 49), (6, 20, 2, true), 923),
  ((6, 52), (6, 21, 2, true), 924),
  ((6, 117), (6, 22, 0, false), 925),
  ((6, 120), (6, 23, 0, false), 926),
  ((6, 123), (6, 24, 0, false), 927),
  ((6, 126), (6, 25, 0, false), 928),
  ((6, 55), (6, 26, 2, true), 929),
  ((6, 58), (6, 27, 2, true), 930),
  ((6, 136), (6, 28, 0, false), 931),
  ((6, 142), (6, 29, 0, false), 932),
  ((6, 133), (6, 30, 0, false), 933),
  ((6, 61), (6, 31, 2, true), 934),
  ((6, 64), (6, 32, 2, true), 935),
  ((6, 67), (6, 33, 2, true), 936),
  ((6, 70), (6, 34, 2, true), 937),
  ((6, 265), (6, 35, 0, false), 938),
  ((6, 73), (6, 36, 2, true), 939),
  ((6, 274), (6, 37, 0, false), 940),
  ((6, 271), (6, 38, 0, false), 941)]
def ax_fld (o i : Nat) : Option (Nat × (Nat × (Nat × Bool))) := (ax_fT.find? (fun e => e.1.1 == o && e.1.2 == i)).map (fun e => e.2.1)
/-- own class and pool place, method, kind (0 static, 1 virtual, 2 init, 3 init of a nest mate, 4 Object's init, 5 arraycopy), arguments with the receiver, place of the word -/
def ax_cT : List ((Nat × Nat) × (Nat × (Nat × (Nat × Nat))) × Nat) := [
  ((8, 9), (0, 2, 1, 5), 83),
  ((5, 1), (0, 4, 1, 0), 86),
  ((5, 9), (1, 3, 1, 3), 91),
  ((3, 3), (0, 4, 1, 0), 94),
  ((5, 38), (2, 3, 1, 2), 130),
  ((2, 3), (0, 4, 1, 0), 133),
  ((5, 39), (3, 3, 1, 4), 151),
  ((4, 3), (0, 4, 1, 0), 154),
  ((5, 42), (4, 1, 2, 3), 168),
  ((3, 22), (5, 1, 1, 11), 172),
  ((3, 28), (6, 1, 2, 11), 182),
  ((3, 32), (7, 1, 2, 3), 220),
  ((5, 46), (8, 1, 2, 3), 224),
  ((3, 36), (9, 1, 1, 2), 228),
  ((3, 44), (10, 1, 1, 3), 232),
  ((3, 103), (11, 1, 1, 3), 236),
  ((3, 106), (12, 1, 2, 3), 240),
  ((3, 109), (13, 0, 1, 0), 244),
  ((3, 112), (14, 1, 1, 3), 247),
  ((3, 124), (15, 1, 1, 3), 251),
  ((3, 115), (16, 0, 1, 0), 256),
  ((3, 118), (17, 1, 1, 3), 259),
  ((3, 121), (18, 0, 1, 0), 263),
  ((3, 55), (19, 1, 2, 3), 266),
  ((3, 71), (20, 1, 3, 2), 270),
  ((3, 75), (21, 1, 1, 3), 274),
  ((3, 89), (22, 1, 1, 3), 278),
  ((3, 92), (23, 0, 1, 0), 282),
  ((3, 96), (24, 1, 2, 3), 285),
  ((3, 79), (25, 1, 3, 3), 289),
  ((3, 83), (26, 1, 2, 3), 293),
  ((3, 86), (27, 1, 2, 3), 297),
  ((3, 99), (28, 0, 1, 0), 301),
  ((3, 59), (29, 1, 2, 2), 304),
  ((5, 52), (30, 2, 2, 1), 310),
  ((1, 3), (0, 4, 1, 0), 313),
  ((8, 13), (31, 1, 2, 5), 363),
  ((5, 62), (32, 1, 1, 1), 367),
  ((1, 54), (33, 1, 2, 1), 371),
  ((1, 35), (34, 1, 2, 1), 375),
  ((1, 39), (35, 1, 2, 1), 379),
  ((5, 66), (36, 0, 1, 0), 383),
  ((5, 72), (37, 1, 1, 1), 389),
  ((8, 18), (38, 1, 7, 5), 393),
  ((5, 76), (39, 0, 3, 0), 397),
  ((5, 80), (40, 0, 1, 0), 400),
  ((5, 84), (7, 1, 2, 3), 403),
  ((8, 23), (41, 1, 1, 5), 404),
  ((5, 88), (42, 1, 3, 5), 408),
  ((8, 28), (43, 1, 2, 5), 412),
  ((8, 32), (44, 1, 5, 5), 416),
  ((5, 96), (34, 1, 2, 1), 420),
  ((5, 100), (45, 1, 4, 2), 421),
  ((2, 43), (46, 1, 1, 0), 425),
  ((0, 41), (0, 7, 2, 0), 429),
  ((2, 53), (47, 1, 4, 2), 432),
  ((2, 66), (48, 0, 3, 0), 436),
  ((2, 57), (0, 8, 2, 0), 439),
  ((2, 63), (0, 7, 2, 0), 442),
  ((8, 37), (49, 1, 5, 5), 443),
  ((5, 104), (50, 1, 1, 1), 447),
  ((5, 110), (51, 2, 6, 0), 453),
  ((0, 3), (0, 4, 1, 0), 456),
  ((5, 113), (52, 1, 2, 1), 512),
  ((1, 47), (50, 1, 1, 1), 516),
  ((8, 41), (53, 1, 4, 5), 517),
  ((8, 46), (54, 1, 3, 5), 521),
  ((8, 51), (55, 1, 3, 5), 525),
  ((5, 130), (56, 0, 1, 0), 529),
  ((5, 142), (46, 1, 1, 0), 532),
  ((5, 145), (57, 1, 1, 0), 533),
  ((8, 55), (58, 1, 2, 5), 537),
  ((8, 59), (59, 1, 3, 5), 541),
  ((5, 148), (60, 1, 1, 0), 545),
  ((5, 152), (61, 1, 1, 0), 549),
  ((5, 155), (62, 1, 2, 1), 553),
  ((1, 57), (61, 1, 1, 0), 557),
  ((5, 158), (63, 1, 2, 0), 558),
  ((8, 63), (64, 1, 3, 5), 562),
  ((5, 161), (65, 1, 2, 0), 566),
  ((8, 67), (66, 1, 4, 5), 570),
  ((5, 164), (33, 1, 2, 1), 574),
  ((5, 167), (67, 1, 2, 0), 575),
  ((5, 170), (68, 1, 3, 2), 579),
  ((2, 30), (67, 1, 2, 0), 583),
  ((2, 36), (45, 1, 4, 2), 584),
  ((8, 71), (69, 1, 4, 5), 585),
  ((5, 174), (70, 1, 3, 1), 589),
  ((1, 101), (46, 1, 1, 0), 593),
  ((1, 85), (45, 1, 4, 2), 594),
  ((8, 75), (71, 1, 3, 5), 595),
  ((5, 178), (72, 1, 3, 1), 599),
  ((1, 104), (70, 1, 3, 1), 603),
  ((1, 108), (73, 1, 1, 0), 604),
  ((8, 79), (74, 1, 2, 5), 608),
  ((5, 182), (0, 7, 2, 0), 612),
  ((8, 83), (75, 1, 4, 5), 613),
  ((5, 188), (76, 1, 3, 1), 617),
  ((1, 91), (77, 1, 2, 0), 621),
  ((0, 34), (78, 1, 2, 0), 625),
  ((1, 95), (0, 8, 2, 0), 629),
  ((5, 192), (79, 1, 1, 0), 630),
  ((8, 87), (80, 1, 4, 5), 634),
  ((8, 91), (81, 1, 3, 5), 638),
  ((5, 196), (82, 1, 1, 0), 643),
  ((0, 47), (46, 1, 1, 0), 647),
  ((8, 95), (83, 1, 2, 5), 648),
  ((8, 99), (84, 1, 4, 5), 652),
  ((5, 203), (85, 1, 1, 1), 658),
  ((5, 206), (86, 1, 4, 1), 662),
  ((1, 111), (76, 1, 3, 1), 666),
  ((5, 210), (87, 1, 1, 1), 668),
  ((8, 104), (88, 1, 4, 5), 672),
  ((8, 108), (89, 1, 5, 5), 677),
  ((5, 215), (90, 1, 6, 1), 681),
  ((1, 117), (91, 1, 1, 0), 685),
  ((1, 120), (72, 1, 3, 1), 689),
  ((8, 112), (92, 1, 4, 5), 690),
  ((5, 219), (93, 1, 3, 1), 694),
  ((1, 134), (94, 1, 1, 1), 698),
  ((1, 138), (95, 1, 3, 1), 703),
  ((1, 142), (96, 1, 4, 1), 707),
  ((1, 124), (85, 1, 1, 1), 711),
  ((1, 153), (97, 1, 1, 1), 712),
  ((1, 156), (0, 7, 2, 0), 716),
  ((1, 127), (87, 1, 1, 1), 717),
  ((1, 146), (98, 1, 2, 1), 718),
  ((1, 149), (56, 6, 1, 0), 722),
  ((8, 116), (99, 1, 4, 5), 723),
  ((5, 222), (35, 1, 2, 1), 727),
  ((8, 120), (100, 1, 3, 5), 728),
  ((5, 229), (101, 1, 2, 5), 732),
  ((5, 233), (102, 1, 1, 4), 736),
  ((5, 236), (103, 1, 3, 4), 740),
  ((4, 35), (104, 1, 2, 4), 744),
  ((4, 31), (105, 1, 2, 4), 748),
  ((4, 39), (68, 1, 3, 2), 752),
  ((8, 124), (106, 1, 2, 5), 753),
  ((8, 128), (107, 1, 3, 5), 757),
  ((8, 132), (108, 1, 4, 5), 761),
  ((5, 240), (109, 1, 5, 4), 765),
  ((4, 53), (103, 1, 3, 4), 769),
  ((8, 136), (110, 1, 4, 5), 770),
  ((5, 244), (111, 1, 3, 4), 774),
  ((4, 22), (0, 8, 2, 0), 778),
  ((4, 28), (0, 7, 2, 0), 779),
  ((5, 248), (112, 1, 3, 4), 780),
  ((8, 140), (113, 1, 5, 5), 784),
  ((5, 252), (114, 1, 4, 1), 789),
  ((5, 256), (115, 1, 4, 1), 793),
  ((8, 144), (116, 1, 6, 5), 799),
  ((8, 149), (117, 1, 1, 5), 803),
  ((5, 260), (118, 1, 1, 1), 807),
  ((8, 153), (119, 1, 1, 5), 811),
  ((5, 263), (120, 1, 1, 1), 815),
  ((8, 157), (121, 1, 4, 5), 819),
  ((8, 161), (122, 1, 4, 5), 823),
  ((5, 266), (105, 1, 2, 4), 827),
  ((8, 165), (123, 1, 6, 5), 828),
  ((5, 272), (124, 1, 3, 4), 832),
  ((5, 280), (0, 5, 5, 0), 836),
  ((8, 170), (125, 1, 5, 5), 839),
  ((5, 286), (104, 1, 2, 4), 843),
  ((5, 289), (49, 1, 5, 5), 844),
  ((8, 174), (126, 1, 3, 5), 845),
  ((5, 293), (78, 1, 2, 0), 849),
  ((8, 12), (127, 2, 1, 6), 852),
  ((6, 1), (0, 4, 1, 0), 855),
  ((6, 80), (128, 1, 1, 6), 856),
  ((6, 155), (129, 1, 1, 6), 860),
  ((6, 87), (130, 0, 3, 0), 864),
  ((6, 129), (131, 1, 3, 6), 867),
  ((6, 168), (132, 1, 1, 6), 871),
  ((6, 145), (133, 1, 2, 6), 876),
  ((6, 152), (134, 1, 2, 6), 880),
  ((6, 139), (135, 0, 1, 0), 884),
  ((6, 159), (136, 1, 2, 6), 887),
  ((6, 149), (137, 1, 2, 6), 891),
  ((6, 162), (138, 1, 1, 6), 895),
  ((6, 165), (139, 1, 2, 6), 899),
  ((8, 17), (140, 1, 2, 6), 1021),
  ((6, 101), (141, 1, 2, 6), 1025),
  ((6, 95), (142, 1, 2, 6), 1029),
  ((6, 91), (143, 1, 2, 6), 1033),
  ((6, 98), (144, 1, 2, 6), 1037),
  ((6, 105), (145, 0, 1, 0), 1041),
  ((8, 22), (146, 1, 7, 6), 1044),
  ((6, 114), (147, 0, 1, 0), 1048),
  ((8, 27), (128, 1, 1, 6), 1051),
  ((8, 31), (148, 1, 2, 6), 1052),
  ((8, 36), (149, 1, 5, 6), 1056),
  ((6, 185), (150, 1, 5, 6), 1060),
  ((6, 179), (151, 1, 2, 6), 1064),
  ((6, 176), (152, 0, 3, 0), 1068),
  ((6, 182), (153, 1, 2, 6), 1071),
  ((6, 172), (154, 0, 3, 0), 1075),
  ((8, 40), (155, 1, 5, 6), 1078),
  ((8, 45), (156, 1, 4, 6), 1082),
  ((6, 189), (157, 0, 2, 0), 1086),
  ((8, 50), (158, 1, 3, 6), 1089),
  ((8, 54), (159, 1, 3, 6), 1093),
  ((6, 193), (160, 1, 2, 6), 1097),
  ((8, 58), (161, 1, 2, 6), 1101),
  ((8, 62), (162, 1, 3, 6), 1105),
  ((6, 199), (163, 1, 2, 6), 1109),
  ((6, 196), (164, 1, 2, 6), 1113),
  ((6, 202), (165, 1, 2, 6), 1117),
  ((6, 205), (166, 1, 2, 6), 1121),
  ((8, 66), (167, 1, 3, 6), 1125),
  ((8, 70), (168, 1, 4, 6), 1129),
  ((6, 208), (169, 1, 3, 6), 1133),
  ((6, 214), (170, 1, 3, 6), 1137),
  ((6, 211), (171, 1, 2, 6), 1141),
  ((8, 74), (172, 1, 4, 6), 1145),
  ((6, 217), (173, 1, 3, 6), 1149),
  ((8, 78), (174, 1, 3, 6), 1153),
  ((6, 223), (175, 1, 3, 6), 1157),
  ((6, 220), (176, 1, 2, 6), 1161),
  ((8, 82), (177, 1, 2, 6), 1165),
  ((8, 86), (178, 1, 4, 6), 1169),
  ((6, 229), (179, 0, 1, 0), 1173),
  ((6, 232), (180, 1, 3, 6), 1176),
  ((6, 226), (181, 1, 3, 6), 1180),
  ((6, 236), (182, 1, 2, 6), 1184),
  ((8, 90), (183, 1, 4, 6), 1188),
  ((8, 94), (184, 1, 3, 6), 1192),
  ((6, 239), (185, 1, 3, 6), 1196),
  ((8, 98), (186, 1, 2, 6), 1201),
  ((8, 103), (187, 1, 4, 6), 1205),
  ((6, 249), (188, 1, 1, 6), 1211),
  ((6, 252), (189, 1, 4, 6), 1215),
  ((6, 256), (190, 1, 1, 6), 1220),
  ((8, 107), (191, 1, 4, 6), 1224),
  ((8, 111), (192, 1, 5, 6), 1229),
  ((6, 261), (193, 1, 6, 6), 1233),
  ((8, 115), (194, 1, 4, 6), 1237),
  ((6, 281), (195, 1, 6, 6), 1241),
  ((6, 277), (196, 1, 4, 6), 1245),
  ((6, 268), (197, 1, 1, 6), 1249),
  ((8, 119), (198, 1, 4, 6), 1253),
  ((6, 285), (199, 1, 2, 6), 1257),
  ((8, 123), (200, 1, 3, 6), 1261),
  ((6, 291), (201, 1, 3, 6), 1265),
  ((6, 288), (202, 1, 2, 6), 1269),
  ((6, 294), (203, 1, 3, 6), 1273),
  ((8, 127), (204, 1, 2, 6), 1277),
  ((8, 131), (205, 1, 3, 6), 1281),
  ((8, 135), (206, 1, 4, 6), 1285),
  ((6, 297), (207, 1, 5, 6), 1289),
  ((8, 139), (208, 1, 4, 6), 1293),
  ((8, 143), (209, 1, 5, 6), 1297),
  ((6, 306), (210, 0, 3, 0), 1301),
  ((6, 309), (211, 1, 5, 6), 1305),
  ((8, 148), (212, 1, 6, 6), 1311),
  ((6, 314), (213, 0, 3, 0), 1316),
  ((8, 152), (214, 1, 1, 6), 1319),
  ((8, 156), (215, 1, 1, 6), 1323),
  ((8, 160), (216, 1, 4, 6), 1327),
  ((8, 164), (217, 1, 4, 6), 1331),
  ((8, 169), (218, 1, 6, 6), 1335),
  ((8, 173), (219, 1, 5, 6), 1339),
  ((6, 328), (155, 1, 5, 6), 1343),
  ((8, 177), (220, 1, 3, 6), 1344),
  ((6, 331), (221, 0, 2, 0), 1348)]
def ax_call (o i : Nat) : Option (Nat × (Nat × (Nat × Nat))) := (ax_cT.find? (fun e => e.1.1 == o && e.1.2 == i)).map (fun e => e.2.1)
def ax_nest : List (String × (Nat × (MethodName × String))) := [("UpTheFlue", 9, yX3_init, "UpTheFlue"), ("UpTheFlue", 38, yX2_init, "UpTheFlue"), ("UpTheFlue", 39, yX4_init, "UpTheFlue"), ("UpTheFlue$House", 149, yX6_numberOf, "UpTheFlue")]
/-- own class and pool place, class; places of the words: link, instantiable, initialised -/
def ax_kT : List ((Nat × Nat) × Nat × (Nat × (Nat × Nat))) := [
  ((8, 7), 5, (81, 82, 66)),
  ((5, 7), 3, (89, 90, 67)),
  ((5, 16), 2, (125, 129, 68)),
  ((5, 22), 4, (127, 150, 69)),
  ((5, 50), 1, (308, 309, 75)),
  ((1, 9), 0, (314, 452, 79)),
  ((5, 108), 0, (451, 452, 79)),
  ((8, 10), 6, (850, 851, 76))]
def ax_cls (o i : Nat) : Option Nat := (ax_kT.find? (fun e => e.1.1 == o && e.1.2 == i)).map (fun e => e.2.1)
def ax_iT : List ((Nat × Nat) × Int32 × Nat) := [
  ((10, 265), (1431655765 : Int32), 386),
  ((10, 266), (858993459 : Int32), 387),
  ((10, 267), (252645135 : Int32), 388),
  ((5, 195), (-100000 : Int32), 642),
  ((1, 137), (1000000 : Int32), 702),
  ((5, 251), (99999 : Int32), 788),
  ((6, 158), (100000 : Int32), 875),
  ((6, 242), (-100000 : Int32), 1200),
  ((6, 305), (99999 : Int32), 1304)]
def ax_ldc (o i : Nat) : Option Int32 := (ax_iT.find? (fun e => e.1.1 == o && e.1.2 == i)).map (fun e => e.2.1)
def ax_lT : List ((Nat × Nat) × Int64 × Nat) := [
  ((5, 199), (-4611686018427387904 : Int64), 656),
  ((5, 201), (1000000000 : Int64), 657),
  ((1, 115), (100 : Int64), 667),
  ((5, 213), (10000000 : Int64), 676),
  ((1, 130), (48271 : Int64), 797),
  ((1, 132), (2147483647 : Int64), 798),
  ((6, 245), (-4611686018427387904 : Int64), 1209),
  ((6, 247), (1000000000 : Int64), 1210),
  ((6, 243), (100 : Int64), 1219),
  ((6, 259), (10000000 : Int64), 1228),
  ((6, 301), (48271 : Int64), 1309),
  ((6, 303), (2147483647 : Int64), 1310),
  ((6, 312), (20 : Int64), 1315)]
def ax_ldc2 (o i : Nat) : Option Int64 := (ax_lT.find? (fun e => e.1.1 == o && e.1.2 == i)).map (fun e => e.2.1)
set_option maxRecDepth 100000 in
theorem ax_mT_ok : ax_mT.all (fun r => decide (r.2.2.1 ≤ 41) && plainName r.1.cls && decide (r.1.cls ≠ "java/lang/invoke/MethodHandle" ∧ r.1.cls ≠ "java/lang/invoke/VarHandle" ∧ (parseMethodDescriptor r.1.desc).map (fun d => d.parameters.length) = some r.2.2.2.2.1) && decide (lw_tbl[r.2.2.2.2.2.2.2.2.2]? = some (Cond.initialized r.1.cls))) = true := by decide +kernel
set_option maxRecDepth 100000 in
theorem ax_mT_ok2 : ax_mT.all (fun r => (r.2.2.2.2.2.1 == 0 && decide (lw_tbl[r.2.2.2.2.2.2.2.1]? = some (Cond.static r.1))) || ((r.2.2.2.2.2.1 == 1 && decide (lw_tbl[r.2.2.2.2.2.2.2.2.1]? = some (Cond.selects r.1.cls r.1 r.1)) || r.2.2.2.2.2.1 == 2 && decide (r.1.name = "<init>" ∧ r.2.2.2.1 = none)) && decide (lw_tbl[r.2.2.2.2.2.2.2.1]? = some (Cond.instanceMethod r.1)))) = true := by decide +kernel
set_option maxRecDepth 100000 in
theorem ax_cT_ok : ax_cT.all (fun e => (decide (e.2.1.2.1 < 3) && decide (lw_tbl[e.2.2]? = some (Cond.methodLink (ax_nm e.1.1) e.1.2 (ax_y e.2.1.1))) && decide (ax_kd e.2.1.1 = e.2.1.2.1) && decide (e.2.1.2.2.1 = ax_na e.2.1.1 + (if e.2.1.2.1 = 0 then 0 else 1)) && decide (e.2.1.2.1 = 1 → e.2.1.2.2.2 < 12 → ax_nm e.2.1.2.2.2 = (ax_y e.2.1.1).cls)) || (decide (e.2.1.2.1 = 3) && ax_nest.any (fun q => decide (q.1 = ax_nm e.1.1 ∧ q.2.1 = e.1.2 ∧ q.2.2.1 = ax_y e.2.1.1)) && decide (ax_kd e.2.1.1 = 2) && decide (e.2.1.2.2.1 = ax_na e.2.1.1 + 1)) || (decide (e.2.1.2.1 = 6) && ax_nest.any (fun q => decide (q.1 = ax_nm e.1.1 ∧ q.2.1 = e.1.2 ∧ q.2.2.1 = ax_y e.2.1.1)) && decide (ax_kd e.2.1.1 = 0) && decide (e.2.1.2.2.1 = ax_na e.2.1.1)) || (decide (e.2.1.2.1 = 4) && decide (lw_tbl[e.2.2]? = some (Cond.methodLink (ax_nm e.1.1) e.1.2 Lib.objectInit))) || (decide (e.2.1.2.1 = 5) && decide (lw_tbl[e.2.2]? = some (Cond.methodLink (ax_nm e.1.1) e.1.2 arraycopyName))) || (decide (e.2.1.2.1 = 7) && decide (lw_tbl[e.2.2]? = some (Cond.methodLink (ax_nm e.1.1) e.1.2 Lib.Math.max.name))) || (decide (e.2.1.2.1 = 8) && decide (lw_tbl[e.2.2]? = some (Cond.methodLink (ax_nm e.1.1) e.1.2 Lib.Math.min.name)))) = true := by decide +kernel
set_option maxRecDepth 100000 in
theorem ax_kT_ok : ax_kT.all (fun e => decide (lw_tbl[e.2.2.1]? = some (Cond.classLink (ax_nm e.1.1) e.1.2 (ax_nm e.2.1)))) = true := by decide +kernel
set_option maxRecDepth 100000 in
theorem ax_iT_ok : ax_iT.all (fun e => decide (e.1.1 = 99) || decide (lw_tbl[e.2.2]? = some (Cond.constant (ax_nm e.1.1) e.1.2 e.2.1))) = true := by decide +kernel
set_option maxRecDepth 100000 in
theorem ax_lT_ok : ax_lT.all (fun e => decide (lw_tbl[e.2.2]? = some (Cond.constantLong (ax_nm e.1.1) e.1.2 e.2.1))) = true := by decide +kernel
set_option maxRecDepth 100000 in
theorem ax_lay0 : u_ws (ax_nm 0) TX0 12 = ([487, 489, 491, 493, 495, 497, 499, 501, 503, 505, 507, 509] : List Nat).filterMap (fun i => lw_tbl[i]?) := by decide +kernel
set_option maxRecDepth 100000 in
theorem ax_lay1 : u_ws (ax_nm 1) TX1 7 = ([325, 327, 329, 331, 333, 335, 337] : List Nat).filterMap (fun i => lw_tbl[i]?) := by decide +kernel
set_option maxRecDepth 100000 in
theorem ax_lay2 : u_ws (ax_nm 2) TX2 5 = ([139, 141, 143, 145, 147] : List Nat).filterMap (fun i => lw_tbl[i]?) := by decide +kernel
set_option maxRecDepth 100000 in
theorem ax_lay3 : u_ws (ax_nm 3) TX3 9 = ([105, 107, 109, 111, 113, 115, 117, 119, 121] : List Nat).filterMap (fun i => lw_tbl[i]?) := by decide +kernel
set_option maxRecDepth 100000 in
theorem ax_lay4 : u_ws (ax_nm 4) TX4 3 = ([160, 162, 164] : List Nat).filterMap (fun i => lw_tbl[i]?) := by decide +kernel
set_option maxRecDepth 100000 in
theorem ax_lay5 : u_ws (ax_nm 5) TX6 7 = ([348, 350, 352, 354, 356, 358, 360] : List Nat).filterMap (fun i => lw_tbl[i]?) := by decide +kernel
set_option maxRecDepth 100000 in
theorem ax_lay6 : u_ws (ax_nm 6) TX7 39 = ([942, 944, 946, 948, 950, 952, 954, 956, 958, 960, 962, 964, 966, 968, 970, 972, 974, 976, 978, 980, 982, 984, 986, 988, 990, 992, 994, 996, 998, 1000, 1002, 1004, 1006, 1008, 1010, 1012, 1014, 1016, 1018] : List Nat).filterMap (fun i => lw_tbl[i]?) := by decide +kernel
abbrev ax_vc : List vw_C := [(ax_nm 0, TX0, 12), (ax_nm 1, TX1, 7), (ax_nm 2, TX2, 5), (ax_nm 3, TX3, 9), (ax_nm 4, TX4, 3), (ax_nm 5, TX6, 7), (ax_nm 6, TX7, 39)]
def ax_G : List Cond := lw_tbl.filter goodWord
theorem ax_t1 {y : MethodName} {c : ByteArray} {n : Nat} {r : Option FieldType} (i : Nat) (hi : tables_1_1[i]? = some (Cond.code y c n r)) : Cond.code y c n r ∈ ax_G := by
  have h := List.mem_of_getElem? hi
  exact List.mem_filter.mpr ⟨List.mem_append_right _ (show _ ∈ tables_1_1 ++ (tables_1_2 ++ (tables_1_3 ++ (tables_1_4 ++ (tables_1_5 ++ tables_1_6)))) from List.mem_append_left _ h), rfl⟩
theorem ax_t2 {y : MethodName} {c : ByteArray} {n : Nat} {r : Option FieldType} (i : Nat) (hi : tables_1_2[i]? = some (Cond.code y c n r)) : Cond.code y c n r ∈ ax_G := by
  have h := List.mem_of_getElem? hi
  exact List.mem_filter.mpr ⟨List.mem_append_right _ (show _ ∈ tables_1_1 ++ (tables_1_2 ++ (tables_1_3 ++ (tables_1_4 ++ (tables_1_5 ++ tables_1_6)))) from List.mem_append_right _ (List.mem_append_left _ h)), rfl⟩
theorem ax_t3 {y : MethodName} {c : ByteArray} {n : Nat} {r : Option FieldType} (i : Nat) (hi : tables_1_3[i]? = some (Cond.code y c n r)) : Cond.code y c n r ∈ ax_G := by
  have h := List.mem_of_getElem? hi
  exact List.mem_filter.mpr ⟨List.mem_append_right _ (show _ ∈ tables_1_1 ++ (tables_1_2 ++ (tables_1_3 ++ (tables_1_4 ++ (tables_1_5 ++ tables_1_6)))) from List.mem_append_right _ (List.mem_append_right _ (List.mem_append_left _ h))), rfl⟩
theorem ax_t4 {y : MethodName} {c : ByteArray} {n : Nat} {r : Option FieldType} (i : Nat) (hi : tables_1_4[i]? = some (Cond.code y c n r)) : Cond.code y c n r ∈ ax_G := by
  have h := List.mem_of_getElem? hi
  exact List.mem_filter.mpr ⟨List.mem_append_right _ (show _ ∈ tables_1_1 ++ (tables_1_2 ++ (tables_1_3 ++ (tables_1_4 ++ (tables_1_5 ++ tables_1_6)))) from List.mem_append_right _ (List.mem_append_right _ (List.mem_append_right _ (List.mem_append_left _ h)))), rfl⟩
theorem ax_t5 {y : MethodName} {c : ByteArray} {n : Nat} {r : Option FieldType} (i : Nat) (hi : tables_1_5[i]? = some (Cond.code y c n r)) : Cond.code y c n r ∈ ax_G := by
  have h := List.mem_of_getElem? hi
  exact List.mem_filter.mpr ⟨List.mem_append_right _ (show _ ∈ tables_1_1 ++ (tables_1_2 ++ (tables_1_3 ++ (tables_1_4 ++ (tables_1_5 ++ tables_1_6)))) from List.mem_append_right _ (List.mem_append_right _ (List.mem_append_right _ (List.mem_append_right _ (List.mem_append_left _ h))))), rfl⟩
theorem ax_t6 {y : MethodName} {c : ByteArray} {n : Nat} {r : Option FieldType} (i : Nat) (hi : tables_1_6[i]? = some (Cond.code y c n r)) : Cond.code y c n r ∈ ax_G := by
  have h := List.mem_of_getElem? hi
  exact List.mem_filter.mpr ⟨List.mem_append_right _ (show _ ∈ tables_1_1 ++ (tables_1_2 ++ (tables_1_3 ++ (tables_1_4 ++ (tables_1_5 ++ tables_1_6)))) from List.mem_append_right _ (List.mem_append_right _ (List.mem_append_right _ (List.mem_append_right _ (List.mem_append_right _ h))))), rfl⟩
set_option maxRecDepth 100000 in
theorem cdX6_init : Cond.code (ax_y 0) (ax_cc 0) (ax_nL 0) (ax_ret 0) ∈ ax_G := ax_t1 (y := yX6_init) (c := cX6_init) (n := 2) (r := (Option.none : Option FieldType)) 20 rfl
set_option maxRecDepth 100000 in
theorem cdX3_init : Cond.code (ax_y 1) (ax_cc 1) (ax_nL 1) (ax_ret 1) ∈ ax_G := ax_t1 (y := yX3_init) (c := cX3_init) (n := 1) (r := (Option.none : Option FieldType)) 28 rfl
set_option maxRecDepth 100000 in
theorem cdX2_init : Cond.code (ax_y 2) (ax_cc 2) (ax_nL 2) (ax_ret 2) ∈ ax_G := ax_t1 (y := yX2_init) (c := cX2_init) (n := 1) (r := (Option.none : Option FieldType)) 67 rfl
set_option maxRecDepth 100000 in
theorem cdX4_init : Cond.code (ax_y 3) (ax_cc 3) (ax_nL 3) (ax_ret 3) ∈ ax_G := ax_t1 (y := yX4_init) (c := cX4_init) (n := 1) (r := (Option.none : Option FieldType)) 88 rfl
set_option maxRecDepth 100000 in
theorem cdX3_write : Cond.code (ax_y 4) (ax_cc 4) (ax_nL 4) (ax_ret 4) ∈ ax_G := ax_t1 (y := yX3_write) (c := cX3_write) (n := 3) (r := (Option.none : Option FieldType)) 106 rfl
set_option maxRecDepth 100000 in
theorem cdJ0_length_8abf5 : Cond.code (ax_y 5) (ax_cc 5) (ax_nL 5) (ax_ret 5) ∈ ax_G := ax_t1 (y := yJ0_length_8abf5) (c := cJ0_length_8abf5) (n := 1) (r := (Option.some FieldType.int)) 110 rfl
set_option maxRecDepth 100000 in
theorem cdJ0_charAt_5068e : Cond.code (ax_y 6) (ax_cc 6) (ax_nL 6) (ax_ret 6) ∈ ax_G := ax_t1 (y := yJ0_charAt_5068e) (c := cJ0_charAt_5068e) (n := 2) (r := (Option.some FieldType.char)) 120 rfl
set_option maxRecDepth 100000 in
theorem cdX3_append : Cond.code (ax_y 7) (ax_cc 7) (ax_nL 7) (ax_ret 7) ∈ ax_G := ax_t1 (y := yX3_append) (c := cX3_append) (n := 2) (r := (Option.none : Option FieldType)) 158 rfl
set_option maxRecDepth 100000 in
theorem cdX3_read : Cond.code (ax_y 8) (ax_cc 8) (ax_nL 8) (ax_ret 8) ∈ ax_G := ax_t1 (y := yX3_read) (c := cX3_read) (n := 4) (r := (Option.some FieldType.int)) 162 rfl
set_option maxRecDepth 100000 in
theorem cdX2_clear : Cond.code (ax_y 9) (ax_cc 9) (ax_nL 9) (ax_ret 9) ∈ ax_G := ax_t1 (y := yX2_clear) (c := cX2_clear) (n := 1) (r := (Option.none : Option FieldType)) 166 rfl
set_option maxRecDepth 100000 in
theorem cdX3_next : Cond.code (ax_y 10) (ax_cc 10) (ax_nL 10) (ax_ret 10) ∈ ax_G := ax_t1 (y := yX3_next) (c := cX3_next) (n := 2) (r := (Option.none : Option FieldType)) 170 rfl
set_option maxRecDepth 100000 in
theorem cdX3_skipBlanks : Cond.code (ax_y 11) (ax_cc 11) (ax_nL 11) (ax_ret 11) ∈ ax_G := ax_t1 (y := yX3_skipBlanks) (c := cX3_skipBlanks) (n := 2) (r := (Option.none : Option FieldType)) 174 rfl
set_option maxRecDepth 100000 in
theorem cdX3_byteAt : Cond.code (ax_y 12) (ax_cc 12) (ax_nL 12) (ax_ret 12) ∈ ax_G := ax_t1 (y := yX3_byteAt) (c := cX3_byteAt) (n := 2) (r := (Option.some FieldType.int)) 178 rfl
set_option maxRecDepth 100000 in
theorem cdX3_isLetter : Cond.code (ax_y 13) (ax_cc 13) (ax_nL 13) (ax_ret 13) ∈ ax_G := ax_t1 (y := yX3_isLetter) (c := cX3_isLetter) (n := 1) (r := (Option.some FieldType.boolean)) 181 rfl
set_option maxRecDepth 100000 in
theorem cdX3_readWord : Cond.code (ax_y 14) (ax_cc 14) (ax_nL 14) (ax_ret 14) ∈ ax_G := ax_t1 (y := yX3_readWord) (c := cX3_readWord) (n := 2) (r := (Option.none : Option FieldType)) 185 rfl
set_option maxRecDepth 100000 in
theorem cdX3_wordNumber : Cond.code (ax_y 15) (ax_cc 15) (ax_nL 15) (ax_ret 15) ∈ ax_G := ax_t1 (y := yX3_wordNumber) (c := cX3_wordNumber) (n := 5) (r := (Option.some FieldType.int)) 189 rfl
set_option maxRecDepth 100000 in
theorem cdX3_isDigit : Cond.code (ax_y 16) (ax_cc 16) (ax_nL 16) (ax_ret 16) ∈ ax_G := ax_t1 (y := yX3_isDigit) (c := cX3_isDigit) (n := 1) (r := (Option.some FieldType.boolean)) 193 rfl
set_option maxRecDepth 100000 in
theorem cdX3_readNumber : Cond.code (ax_y 17) (ax_cc 17) (ax_nL 17) (ax_ret 17) ∈ ax_G := ax_t1 (y := yX3_readNumber) (c := cX3_readNumber) (n := 2) (r := (Option.none : Option FieldType)) 197 rfl
set_option maxRecDepth 100000 in
theorem cdX5_ofByte : Cond.code (ax_y 18) (ax_cc 18) (ax_nL 18) (ax_ret 18) ∈ ax_G := ax_t1 (y := yX5_ofByte) (c := cX5_ofByte) (n := 1) (r := (Option.some FieldType.int)) 200 rfl
set_option maxRecDepth 100000 in
theorem cdX3_readSaying : Cond.code (ax_y 19) (ax_cc 19) (ax_nL 19) (ax_ret 19) ∈ ax_G := ax_t1 (y := yX3_readSaying) (c := cX3_readSaying) (n := 4) (r := (Option.some FieldType.boolean)) 204 rfl
set_option maxRecDepth 100000 in
theorem cdX2_addStep : Cond.code (ax_y 20) (ax_cc 20) (ax_nL 20) (ax_ret 20) ∈ ax_G := ax_t1 (y := yX2_addStep) (c := cX2_addStep) (n := 3) (r := (Option.none : Option FieldType)) 208 rfl
set_option maxRecDepth 100000 in
theorem cdX3_opens : Cond.code (ax_y 21) (ax_cc 21) (ax_nL 21) (ax_ret 21) ∈ ax_G := ax_t1 (y := yX3_opens) (c := cX3_opens) (n := 2) (r := (Option.some FieldType.boolean)) 212 rfl
set_option maxRecDepth 100000 in
theorem cdX3_lastWaiting : Cond.code (ax_y 22) (ax_cc 22) (ax_nL 22) (ax_ret 22) ∈ ax_G := ax_t1 (y := yX3_lastWaiting) (c := cX3_lastWaiting) (n := 1) (r := (Option.some FieldType.int)) 216 rfl
set_option maxRecDepth 100000 in
theorem cdX5_binds : Cond.code (ax_y 23) (ax_cc 23) (ax_nL 23) (ax_ret 23) ∈ ax_G := ax_t1 (y := yX5_binds) (c := cX5_binds) (n := 1) (r := (Option.some FieldType.int)) 219 rfl
set_option maxRecDepth 100000 in
theorem cdX3_await : Cond.code (ax_y 24) (ax_cc 24) (ax_nL 24) (ax_ret 24) ∈ ax_G := ax_t1 (y := yX3_await) (c := cX3_await) (n := 2) (r := (Option.none : Option FieldType)) 223 rfl
set_option maxRecDepth 100000 in
theorem cdX3_settle : Cond.code (ax_y 25) (ax_cc 25) (ax_nL 25) (ax_ret 25) ∈ ax_G := ax_t1 (y := yX3_settle) (c := cX3_settle) (n := 5) (r := (Option.none : Option FieldType)) 227 rfl
set_option maxRecDepth 100000 in
theorem cdX3_closes : Cond.code (ax_y 26) (ax_cc 26) (ax_nL 26) (ax_ret 26) ∈ ax_G := ax_t1 (y := yX3_closes) (c := cX3_closes) (n := 2) (r := (Option.some FieldType.boolean)) 231 rfl
set_option maxRecDepth 100000 in
theorem cdX3_joins : Cond.code (ax_y 27) (ax_cc 27) (ax_nL 27) (ax_ret 27) ∈ ax_G := ax_t1 (y := yX3_joins) (c := cX3_joins) (n := 3) (r := (Option.some FieldType.boolean)) 235 rfl
set_option maxRecDepth 100000 in
theorem cdX5_joinsTwo : Cond.code (ax_y 28) (ax_cc 28) (ax_nL 28) (ax_ret 28) ∈ ax_G := ax_t1 (y := yX5_joinsTwo) (c := cX5_joinsTwo) (n := 1) (r := (Option.some FieldType.boolean)) 238 rfl
set_option maxRecDepth 100000 in
theorem cdX2_endPart : Cond.code (ax_y 29) (ax_cc 29) (ax_nL 29) (ax_ret 29) ∈ ax_G := ax_t2 (y := yX2_endPart) (c := cX2_endPart) (n := 2) (r := (Option.none : Option FieldType)) 2 rfl
set_option maxRecDepth 100000 in
theorem cdX1_init : Cond.code (ax_y 30) (ax_cc 30) (ax_nL 30) (ax_ret 30) ∈ ax_G := ax_t2 (y := yX1_init) (c := cX1_init) (n := 2) (r := (Option.none : Option FieldType)) 7 rfl
set_option maxRecDepth 100000 in
theorem cdX6_count : Cond.code (ax_y 31) (ax_cc 31) (ax_nL 31) (ax_ret 31) ∈ ax_G := ax_t2 (y := yX6_count) (c := cX6_count) (n := 2) (r := (Option.some FieldType.int)) 61 rfl
set_option maxRecDepth 100000 in
theorem cdX1_fireplaces : Cond.code (ax_y 32) (ax_cc 32) (ax_nL 32) (ax_ret 32) ∈ ax_G := ax_t2 (y := yX1_fireplaces) (c := cX1_fireplaces) (n := 3) (r := (Option.some FieldType.int)) 65 rfl
set_option maxRecDepth 100000 in
theorem cdX1_fireplaceAt : Cond.code (ax_y 33) (ax_cc 33) (ax_nL 33) (ax_ret 33) ∈ ax_G := ax_t2 (y := yX1_fireplaceAt) (c := cX1_fireplaceAt) (n := 3) (r := (Option.some (FieldType.object "UpTheFlue$Bit"))) 69 rfl
set_option maxRecDepth 100000 in
theorem cdX1_bitAt : Cond.code (ax_y 34) (ax_cc 34) (ax_nL 34) (ax_ret 34) ∈ ax_G := ax_t2 (y := yX1_bitAt) (c := cX1_bitAt) (n := 2) (r := (Option.some (FieldType.object "UpTheFlue$Bit"))) 73 rfl
set_option maxRecDepth 100000 in
theorem cdX1_firstUnder : Cond.code (ax_y 35) (ax_cc 35) (ax_nL 35) (ax_ret 35) ∈ ax_G := ax_t2 (y := yX1_firstUnder) (c := cX1_firstUnder) (n := 4) (r := (Option.some (FieldType.object "UpTheFlue$Bit"))) 77 rfl
set_option maxRecDepth 100000 in
theorem cdJ6_bitCount_0f7a4 : Cond.code (ax_y 36) (ax_cc 36) (ax_nL 36) (ax_ret 36) ∈ ax_G := ax_t2 (y := yJ6_bitCount_0f7a4) (c := cJ6_bitCount_0f7a4) (n := 1) (r := (Option.some FieldType.int)) 80 rfl
set_option maxRecDepth 100000 in
theorem cdX1_pots : Cond.code (ax_y 37) (ax_cc 37) (ax_nL 37) (ax_ret 37) ∈ ax_G := ax_t2 (y := yX1_pots) (c := cX1_pots) (n := 4) (r := (Option.some FieldType.int)) 87 rfl
set_option maxRecDepth 100000 in
theorem cdX6_feed : Cond.code (ax_y 38) (ax_cc 38) (ax_nL 38) (ax_ret 38) ∈ ax_G := ax_t2 (y := yX6_feed) (c := cX6_feed) (n := 8) (r := (Option.some FieldType.int)) 91 rfl
set_option maxRecDepth 100000 in
theorem cdX6_in : Cond.code (ax_y 39) (ax_cc 39) (ax_nL 39) (ax_ret 39) ∈ ax_G := ax_t2 (y := yX6_in) (c := cX6_in) (n := 3) (r := (Option.some FieldType.boolean)) 94 rfl
set_option maxRecDepth 100000 in
theorem cdX6_isByte : Cond.code (ax_y 40) (ax_cc 40) (ax_nL 40) (ax_ret 40) ∈ ax_G := ax_t2 (y := yX6_isByte) (c := cX6_isByte) (n := 1) (r := (Option.some FieldType.boolean)) 97 rfl
set_option maxRecDepth 100000 in
theorem cdX6_text : Cond.code (ax_y 41) (ax_cc 41) (ax_nL 41) (ax_ret 41) ∈ ax_G := ax_t2 (y := yX6_text) (c := cX6_text) (n := 3) (r := (Option.some FieldType.int)) 102 rfl
set_option maxRecDepth 100000 in
theorem cdX6_textAt : Cond.code (ax_y 42) (ax_cc 42) (ax_nL 42) (ax_ret 42) ∈ ax_G := ax_t2 (y := yX6_textAt) (c := cX6_textAt) (n := 3) (r := (Option.some (FieldType.object "UpTheFlue$Law"))) 106 rfl
set_option maxRecDepth 100000 in
theorem cdX6_force : Cond.code (ax_y 43) (ax_cc 43) (ax_nL 43) (ax_ret 43) ∈ ax_G := ax_t2 (y := yX6_force) (c := cX6_force) (n := 4) (r := (Option.some FieldType.int)) 110 rfl
set_option maxRecDepth 100000 in
theorem cdX6_asks : Cond.code (ax_y 44) (ax_cc 44) (ax_nL 44) (ax_ret 44) ∈ ax_G := ax_t2 (y := yX6_asks) (c := cX6_asks) (n := 6) (r := (Option.some FieldType.int)) 114 rfl
set_option maxRecDepth 100000 in
theorem cdX2_says : Cond.code (ax_y 45) (ax_cc 45) (ax_nL 45) (ax_ret 45) ∈ ax_G := ax_t2 (y := yX2_says) (c := cX2_says) (n := 6) (r := (Option.some FieldType.int)) 119 rfl
set_option maxRecDepth 100000 in
theorem cdX0_isWide : Cond.code (ax_y 46) (ax_cc 46) (ax_nL 46) (ax_ret 46) ∈ ax_G := ax_t2 (y := yX0_isWide) (c := cX0_isWide) (n := 2) (r := (Option.some FieldType.int)) 123 rfl
set_option maxRecDepth 100000 in
theorem cdX2_step : Cond.code (ax_y 47) (ax_cc 47) (ax_nL 47) (ax_ret 47) ∈ ax_G := ax_t2 (y := yX2_step) (c := cX2_step) (n := 6) (r := (Option.some FieldType.int)) 130 rfl
set_option maxRecDepth 100000 in
theorem cdX2_joined : Cond.code (ax_y 48) (ax_cc 48) (ax_nL 48) (ax_ret 48) ∈ ax_G := ax_t2 (y := yX2_joined) (c := cX2_joined) (n := 3) (r := (Option.some FieldType.int)) 133 rfl
set_option maxRecDepth 100000 in
theorem cdX6_bit : Cond.code (ax_y 49) (ax_cc 49) (ax_nL 49) (ax_ret 49) ∈ ax_G := ax_t2 (y := yX6_bit) (c := cX6_bit) (n := 5) (r := (Option.some FieldType.int)) 141 rfl
set_option maxRecDepth 100000 in
theorem cdX1_isFull : Cond.code (ax_y 50) (ax_cc 50) (ax_nL 50) (ax_ret 50) ∈ ax_G := ax_t2 (y := yX1_isFull) (c := cX1_isFull) (n := 1) (r := (Option.some FieldType.boolean)) 145 rfl
set_option maxRecDepth 100000 in
theorem cdX0_init : Cond.code (ax_y 51) (ax_cc 51) (ax_nL 51) (ax_ret 51) ∈ ax_G := ax_t2 (y := yX0_init) (c := cX0_init) (n := 6) (r := (Option.none : Option FieldType)) 150 rfl
set_option maxRecDepth 100000 in
theorem cdX1_add : Cond.code (ax_y 52) (ax_cc 52) (ax_nL 52) (ax_ret 52) ∈ ax_G := ax_t2 (y := yX1_add) (c := cX1_add) (n := 2) (r := (Option.some FieldType.int)) 210 rfl
set_option maxRecDepth 100000 in
theorem cdX6_mend : Cond.code (ax_y 53) (ax_cc 53) (ax_nL 53) (ax_ret 53) ∈ ax_G := ax_t2 (y := yX6_mend) (c := cX6_mend) (n := 6) (r := (Option.some FieldType.int)) 215 rfl
set_option maxRecDepth 100000 in
theorem cdX6_lay : Cond.code (ax_y 54) (ax_cc 54) (ax_nL 54) (ax_ret 54) ∈ ax_G := ax_t2 (y := yX6_lay) (c := cX6_lay) (n := 5) (r := (Option.some FieldType.int)) 219 rfl
set_option maxRecDepth 100000 in
theorem cdX6_told : Cond.code (ax_y 55) (ax_cc 55) (ax_nL 55) (ax_ret 55) ∈ ax_G := ax_t2 (y := yX6_told) (c := cX6_told) (n := 4) (r := (Option.some FieldType.int)) 223 rfl
set_option maxRecDepth 100000 in
theorem cdX6_numberOf : Cond.code (ax_y 56) (ax_cc 56) (ax_nL 56) (ax_ret 56) ∈ ax_G := ax_t2 (y := yX6_numberOf) (c := cX6_numberOf) (n := 1) (r := (Option.some FieldType.int)) 226 rfl
set_option maxRecDepth 100000 in
theorem cdX0_leaks : Cond.code (ax_y 57) (ax_cc 57) (ax_nL 57) (ax_ret 57) ∈ ax_G := ax_t2 (y := yX0_leaks) (c := cX0_leaks) (n := 1) (r := (Option.some FieldType.int)) 231 rfl
set_option maxRecDepth 100000 in
theorem cdX6_all : Cond.code (ax_y 58) (ax_cc 58) (ax_nL 58) (ax_ret 58) ∈ ax_G := ax_t2 (y := yX6_all) (c := cX6_all) (n := 2) (r := (Option.some FieldType.int)) 235 rfl
set_option maxRecDepth 100000 in
theorem cdX6_flue : Cond.code (ax_y 59) (ax_cc 59) (ax_nL 59) (ax_ret 59) ∈ ax_G := ax_t2 (y := yX6_flue) (c := cX6_flue) (n := 4) (r := (Option.some FieldType.int)) 239 rfl
set_option maxRecDepth 100000 in
theorem cdX0_last : Cond.code (ax_y 60) (ax_cc 60) (ax_nL 60) (ax_ret 60) ∈ ax_G := ax_t3 (y := yX0_last) (c := cX0_last) (n := 3) (r := (Option.some (FieldType.object "UpTheFlue$Bit"))) 3 rfl
set_option maxRecDepth 100000 in
theorem cdX0_bitsUp : Cond.code (ax_y 61) (ax_cc 61) (ax_nL 61) (ax_ret 61) ∈ ax_G := ax_t3 (y := yX0_bitsUp) (c := cX0_bitsUp) (n := 3) (r := (Option.some FieldType.int)) 7 rfl
set_option maxRecDepth 100000 in
theorem cdX1_fireplacesUnder : Cond.code (ax_y 62) (ax_cc 62) (ax_nL 62) (ax_ret 62) ∈ ax_G := ax_t3 (y := yX1_fireplacesUnder) (c := cX1_fireplacesUnder) (n := 5) (r := (Option.some FieldType.int)) 11 rfl
set_option maxRecDepth 100000 in
theorem cdX0_rodsUpTo : Cond.code (ax_y 63) (ax_cc 63) (ax_nL 63) (ax_ret 63) ∈ ax_G := ax_t3 (y := yX0_rodsUpTo) (c := cX0_rodsUpTo) (n := 4) (r := (Option.some FieldType.int)) 16 rfl
set_option maxRecDepth 100000 in
theorem cdX6_join : Cond.code (ax_y 64) (ax_cc 64) (ax_nL 64) (ax_ret 64) ∈ ax_G := ax_t3 (y := yX6_join) (c := cX6_join) (n := 5) (r := (Option.some FieldType.int)) 20 rfl
set_option maxRecDepth 100000 in
theorem cdX0_firstUpIn : Cond.code (ax_y 65) (ax_cc 65) (ax_nL 65) (ax_ret 65) ∈ ax_G := ax_t3 (y := yX0_firstUpIn) (c := cX0_firstUpIn) (n := 3) (r := (Option.some (FieldType.object "UpTheFlue$Bit"))) 24 rfl
set_option maxRecDepth 100000 in
theorem cdX6_rod : Cond.code (ax_y 66) (ax_cc 66) (ax_nL 66) (ax_ret 66) ∈ ax_G := ax_t3 (y := yX6_rod) (c := cX6_rod) (n := 5) (r := (Option.some FieldType.int)) 28 rfl
set_option maxRecDepth 100000 in
theorem cdX0_reachedBy : Cond.code (ax_y 67) (ax_cc 67) (ax_nL 67) (ax_ret 67) ∈ ax_G := ax_t3 (y := yX0_reachedBy) (c := cX0_reachedBy) (n := 4) (r := (Option.some (FieldType.object "UpTheFlue$Bit"))) 33 rfl
set_option maxRecDepth 100000 in
theorem cdX2_heavyBy : Cond.code (ax_y 68) (ax_cc 68) (ax_nL 68) (ax_ret 68) ∈ ax_G := ax_t3 (y := yX2_heavyBy) (c := cX2_heavyBy) (n := 4) (r := (Option.some FieldType.int)) 37 rfl
set_option maxRecDepth 100000 in
theorem cdX6_push : Cond.code (ax_y 69) (ax_cc 69) (ax_nL 69) (ax_ret 69) ∈ ax_G := ax_t3 (y := yX6_push) (c := cX6_push) (n := 6) (r := (Option.some FieldType.int)) 43 rfl
set_option maxRecDepth 100000 in
theorem cdX1_staysIn : Cond.code (ax_y 70) (ax_cc 70) (ax_nL 70) (ax_ret 70) ∈ ax_G := ax_t3 (y := yX1_staysIn) (c := cX1_staysIn) (n := 4) (r := (Option.some (FieldType.object "UpTheFlue$Bit"))) 47 rfl
set_option maxRecDepth 100000 in
theorem cdX6_sweep : Cond.code (ax_y 71) (ax_cc 71) (ax_nL 71) (ax_ret 71) ∈ ax_G := ax_t3 (y := yX6_sweep) (c := cX6_sweep) (n := 4) (r := (Option.some FieldType.int)) 53 rfl
set_option maxRecDepth 100000 in
theorem cdX1_brush : Cond.code (ax_y 72) (ax_cc 72) (ax_nL 72) (ax_ret 72) ∈ ax_G := ax_t3 (y := yX1_brush) (c := cX1_brush) (n := 7) (r := (Option.some FieldType.int)) 57 rfl
set_option maxRecDepth 100000 in
theorem cdX0_left : Cond.code (ax_y 73) (ax_cc 73) (ax_nL 73) (ax_ret 73) ∈ ax_G := ax_t3 (y := yX0_left) (c := cX0_left) (n := 1) (r := (Option.some FieldType.int)) 62 rfl
set_option maxRecDepth 100000 in
theorem cdX6_needs : Cond.code (ax_y 74) (ax_cc 74) (ax_nL 74) (ax_ret 74) ∈ ax_G := ax_t3 (y := yX6_needs) (c := cX6_needs) (n := 5) (r := (Option.some FieldType.int)) 66 rfl
set_option maxRecDepth 100000 in
theorem cdX6_fire : Cond.code (ax_y 75) (ax_cc 75) (ax_nL 75) (ax_ret 75) ∈ ax_G := ax_t3 (y := yX6_fire) (c := cX6_fire) (n := 6) (r := (Option.some FieldType.int)) 71 rfl
set_option maxRecDepth 100000 in
theorem cdX1_light : Cond.code (ax_y 76) (ax_cc 76) (ax_nL 76) (ax_ret 76) ∈ ax_G := ax_t3 (y := yX1_light) (c := cX1_light) (n := 5) (r := (Option.none : Option FieldType)) 75 rfl
set_option maxRecDepth 100000 in
theorem cdX0_grows : Cond.code (ax_y 77) (ax_cc 77) (ax_nL 77) (ax_ret 77) ∈ ax_G := ax_t3 (y := yX0_grows) (c := cX0_grows) (n := 2) (r := (Option.some FieldType.int)) 79 rfl
set_option maxRecDepth 100000 in
theorem cdX0_isOne : Cond.code (ax_y 78) (ax_cc 78) (ax_nL 78) (ax_ret 78) ∈ ax_G := ax_t3 (y := yX0_isOne) (c := cX0_isOne) (n := 2) (r := (Option.some FieldType.boolean)) 83 rfl
set_option maxRecDepth 100000 in
theorem cdX0_sootUp : Cond.code (ax_y 79) (ax_cc 79) (ax_nL 79) (ax_ret 79) ∈ ax_G := ax_t3 (y := yX0_sootUp) (c := cX0_sootUp) (n := 3) (r := (Option.some FieldType.int)) 88 rfl
set_option maxRecDepth 100000 in
theorem cdX6_smoke : Cond.code (ax_y 80) (ax_cc 80) (ax_nL 80) (ax_ret 80) ∈ ax_G := ax_t3 (y := yX6_smoke) (c := cX6_smoke) (n := 10) (r := (Option.some FieldType.int)) 92 rfl
set_option maxRecDepth 100000 in
theorem cdX6_draw : Cond.code (ax_y 81) (ax_cc 81) (ax_nL 81) (ax_ret 81) ∈ ax_G := ax_t3 (y := yX6_draw) (c := cX6_draw) (n := 4) (r := (Option.some FieldType.int)) 96 rfl
set_option maxRecDepth 100000 in
theorem cdX0_drawUp : Cond.code (ax_y 82) (ax_cc 82) (ax_nL 82) (ax_ret 82) ∈ ax_G := ax_t3 (y := yX0_drawUp) (c := cX0_drawUp) (n := 3) (r := (Option.some FieldType.int)) 101 rfl
set_option maxRecDepth 100000 in
theorem cdX6_smokes : Cond.code (ax_y 83) (ax_cc 83) (ax_nL 83) (ax_ret 83) ∈ ax_G := ax_t3 (y := yX6_smokes) (c := cX6_smokes) (n := 5) (r := (Option.some FieldType.int)) 106 rfl
set_option maxRecDepth 100000 in
theorem cdX6_fine : Cond.code (ax_y 84) (ax_cc 84) (ax_nL 84) (ax_ret 84) ∈ ax_G := ax_t3 (y := yX6_fine) (c := cX6_fine) (n := 8) (r := (Option.some FieldType.long)) 110 rfl
set_option maxRecDepth 100000 in
theorem cdX1_setSootAside : Cond.code (ax_y 85) (ax_cc 85) (ax_nL 85) (ax_ret 85) ∈ ax_G := ax_t3 (y := yX1_setSootAside) (c := cX1_setSootAside) (n := 3) (r := (Option.none : Option FieldType)) 116 rfl
set_option maxRecDepth 100000 in
theorem cdX1_fineBehindFire : Cond.code (ax_y 86) (ax_cc 86) (ax_nL 86) (ax_ret 86) ∈ ax_G := ax_t3 (y := yX1_fineBehindFire) (c := cX1_fineBehindFire) (n := 8) (r := (Option.some FieldType.long)) 120 rfl
set_option maxRecDepth 100000 in
theorem cdX1_putSootBack : Cond.code (ax_y 87) (ax_cc 87) (ax_nL 87) (ax_ret 87) ∈ ax_G := ax_t3 (y := yX1_putSootBack) (c := cX1_putSootBack) (n := 3) (r := (Option.none : Option FieldType)) 126 rfl
set_option maxRecDepth 100000 in
theorem cdX6_when : Cond.code (ax_y 88) (ax_cc 88) (ax_nL 88) (ax_ret 88) ∈ ax_G := ax_t3 (y := yX6_when) (c := cX6_when) (n := 11) (r := (Option.some FieldType.int)) 130 rfl
set_option maxRecDepth 100000 in
theorem cdX6_often : Cond.code (ax_y 89) (ax_cc 89) (ax_nL 89) (ax_ret 89) ∈ ax_G := ax_t3 (y := yX6_often) (c := cX6_often) (n := 8) (r := (Option.some FieldType.int)) 135 rfl
set_option maxRecDepth 100000 in
theorem cdX1_staysBelow : Cond.code (ax_y 90) (ax_cc 90) (ax_nL 90) (ax_ret 90) ∈ ax_G := ax_t3 (y := yX1_staysBelow) (c := cX1_staysBelow) (n := 8) (r := (Option.some FieldType.boolean)) 139 rfl
set_option maxRecDepth 100000 in
theorem cdX0_mostSootUp : Cond.code (ax_y 91) (ax_cc 91) (ax_nL 91) (ax_ret 91) ∈ ax_G := ax_t3 (y := yX0_mostSootUp) (c := cX0_mostSootUp) (n := 3) (r := (Option.some FieldType.int)) 143 rfl
set_option maxRecDepth 100000 in
theorem cdX6_round : Cond.code (ax_y 92) (ax_cc 92) (ax_nL 92) (ax_ret 92) ∈ ax_G := ax_t3 (y := yX6_round) (c := cX6_round) (n := 5) (r := (Option.some FieldType.int)) 148 rfl
set_option maxRecDepth 100000 in
theorem cdX1_bestRound : Cond.code (ax_y 93) (ax_cc 93) (ax_nL 93) (ax_ret 93) ∈ ax_G := ax_t3 (y := yX1_bestRound) (c := cX1_bestRound) (n := 8) (r := (Option.some FieldType.int)) 152 rfl
set_option maxRecDepth 100000 in
theorem cdX1_gatherPlaces : Cond.code (ax_y 94) (ax_cc 94) (ax_nL 94) (ax_ret 94) ∈ ax_G := ax_t3 (y := yX1_gatherPlaces) (c := cX1_gatherPlaces) (n := 4) (r := (Option.some FieldType.int)) 156 rfl
set_option maxRecDepth 100000 in
theorem cdX1_layOrder : Cond.code (ax_y 95) (ax_cc 95) (ax_nL 95) (ax_ret 95) ∈ ax_G := ax_t3 (y := yX1_layOrder) (c := cX1_layOrder) (n := 7) (r := (Option.some FieldType.boolean)) 161 rfl
set_option maxRecDepth 100000 in
theorem cdX1_mostSootInRound : Cond.code (ax_y 96) (ax_cc 96) (ax_nL 96) (ax_ret 96) ∈ ax_G := ax_t3 (y := yX1_mostSootInRound) (c := cX1_mostSootInRound) (n := 7) (r := (Option.some FieldType.int)) 165 rfl
set_option maxRecDepth 100000 in
theorem cdX1_mostSoot : Cond.code (ax_y 97) (ax_cc 97) (ax_nL 97) (ax_ret 97) ∈ ax_G := ax_t3 (y := yX1_mostSoot) (c := cX1_mostSoot) (n := 4) (r := (Option.some FieldType.int)) 170 rfl
set_option maxRecDepth 100000 in
theorem cdX1_orderAsDigits : Cond.code (ax_y 98) (ax_cc 98) (ax_nL 98) (ax_ret 98) ∈ ax_G := ax_t3 (y := yX1_orderAsDigits) (c := cX1_orderAsDigits) (n := 4) (r := (Option.some FieldType.int)) 176 rfl
set_option maxRecDepth 100000 in
theorem cdX6_ball : Cond.code (ax_y 99) (ax_cc 99) (ax_nL 99) (ax_ret 99) ∈ ax_G := ax_t3 (y := yX6_ball) (c := cX6_ball) (n := 9) (r := (Option.some FieldType.int)) 181 rfl
set_option maxRecDepth 100000 in
theorem cdX6_judge : Cond.code (ax_y 100) (ax_cc 100) (ax_nL 100) (ax_ret 100) ∈ ax_G := ax_t3 (y := yX6_judge) (c := cX6_judge) (n := 5) (r := (Option.some FieldType.int)) 186 rfl
set_option maxRecDepth 100000 in
theorem cdX6_sheetAt : Cond.code (ax_y 101) (ax_cc 101) (ax_nL 101) (ax_ret 101) ∈ ax_G := ax_t3 (y := yX6_sheetAt) (c := cX6_sheetAt) (n := 2) (r := (Option.some (FieldType.object "UpTheFlue$Sheet"))) 190 rfl
set_option maxRecDepth 100000 in
theorem cdX4_isMissing : Cond.code (ax_y 102) (ax_cc 102) (ax_nL 102) (ax_ret 102) ∈ ax_G := ax_t3 (y := yX4_isMissing) (c := cX4_isMissing) (n := 1) (r := (Option.some FieldType.boolean)) 194 rfl
set_option maxRecDepth 100000 in
theorem cdX4_otherwise : Cond.code (ax_y 103) (ax_cc 103) (ax_nL 103) (ax_ret 103) ∈ ax_G := ax_t3 (y := yX4_otherwise) (c := cX4_otherwise) (n := 4) (r := (Option.some FieldType.int)) 198 rfl
set_option maxRecDepth 100000 in
theorem cdX4_get : Cond.code (ax_y 104) (ax_cc 104) (ax_nL 104) (ax_ret 104) ∈ ax_G := ax_t3 (y := yX4_get) (c := cX4_get) (n := 2) (r := (Option.some FieldType.int)) 202 rfl
set_option maxRecDepth 100000 in
theorem cdX4_has : Cond.code (ax_y 105) (ax_cc 105) (ax_nL 105) (ax_ret 105) ∈ ax_G := ax_t3 (y := yX4_has) (c := cX4_has) (n := 2) (r := (Option.some FieldType.boolean)) 206 rfl
set_option maxRecDepth 100000 in
theorem cdX6_whose : Cond.code (ax_y 106) (ax_cc 106) (ax_nL 106) (ax_ret 106) ∈ ax_G := ax_t3 (y := yX6_whose) (c := cX6_whose) (n := 6) (r := (Option.some FieldType.int)) 211 rfl
set_option maxRecDepth 100000 in
theorem cdX6_laws : Cond.code (ax_y 107) (ax_cc 107) (ax_nL 107) (ax_ret 107) ∈ ax_G := ax_t3 (y := yX6_laws) (c := cX6_laws) (n := 8) (r := (Option.some FieldType.int)) 215 rfl
set_option maxRecDepth 100000 in
theorem cdX6_blocked : Cond.code (ax_y 108) (ax_cc 108) (ax_nL 108) (ax_ret 108) ∈ ax_G := ax_t3 (y := yX6_blocked) (c := cX6_blocked) (n := 10) (r := (Option.some FieldType.int)) 219 rfl
set_option maxRecDepth 100000 in
theorem cdX4_tellsBlocked : Cond.code (ax_y 109) (ax_cc 109) (ax_nL 109) (ax_ret 109) ∈ ax_G := ax_t3 (y := yX4_tellsBlocked) (c := cX4_tellsBlocked) (n := 8) (r := (Option.some FieldType.boolean)) 223 rfl
set_option maxRecDepth 100000 in
theorem cdX6_film : Cond.code (ax_y 110) (ax_cc 110) (ax_nL 110) (ax_ret 110) ∈ ax_G := ax_t3 (y := yX6_film) (c := cX6_film) (n := 7) (r := (Option.some FieldType.int)) 228 rfl
set_option maxRecDepth 100000 in
theorem cdX4_become : Cond.code (ax_y 111) (ax_cc 111) (ax_nL 111) (ax_ret 111) ∈ ax_G := ax_t3 (y := yX4_become) (c := cX4_become) (n := 4) (r := (Option.none : Option FieldType)) 232 rfl
set_option maxRecDepth 100000 in
theorem cdX4_put : Cond.code (ax_y 112) (ax_cc 112) (ax_nL 112) (ax_ret 112) ∈ ax_G := ax_t3 (y := yX4_put) (c := cX4_put) (n := 3) (r := (Option.none : Option FieldType)) 238 rfl
set_option maxRecDepth 100000 in
theorem cdX6_drawn : Cond.code (ax_y 113) (ax_cc 113) (ax_nL 113) (ax_ret 113) ∈ ax_G := ax_t4 (y := yX6_drawn) (c := cX6_drawn) (n := 6) (r := (Option.some FieldType.int)) 2 rfl
set_option maxRecDepth 100000 in
theorem cdX1_weighBurning : Cond.code (ax_y 114) (ax_cc 114) (ax_nL 114) (ax_ret 114) ∈ ax_G := ax_t4 (y := yX1_weighBurning) (c := cX1_weighBurning) (n := 7) (r := (Option.none : Option FieldType)) 7 rfl
set_option maxRecDepth 100000 in
theorem cdX1_firstBurning : Cond.code (ax_y 115) (ax_cc 115) (ax_nL 115) (ax_ret 115) ∈ ax_G := ax_t4 (y := yX1_firstBurning) (c := cX1_firstBurning) (n := 10) (r := (Option.some FieldType.int)) 11 rfl
set_option maxRecDepth 100000 in
theorem cdX6_odds : Cond.code (ax_y 116) (ax_cc 116) (ax_nL 116) (ax_ret 116) ∈ ax_G := ax_t4 (y := yX6_odds) (c := cX6_odds) (n := 10) (r := (Option.some FieldType.long)) 17 rfl
set_option maxRecDepth 100000 in
theorem cdX6_image : Cond.code (ax_y 117) (ax_cc 117) (ax_nL 117) (ax_ret 117) ∈ ax_G := ax_t4 (y := yX6_image) (c := cX6_image) (n := 1) (r := (Option.some FieldType.int)) 21 rfl
set_option maxRecDepth 100000 in
theorem cdX1_keepImage : Cond.code (ax_y 118) (ax_cc 118) (ax_nL 118) (ax_ret 118) ∈ ax_G := ax_t4 (y := yX1_keepImage) (c := cX1_keepImage) (n := 3) (r := (Option.none : Option FieldType)) 25 rfl
set_option maxRecDepth 100000 in
theorem cdX6_back : Cond.code (ax_y 119) (ax_cc 119) (ax_nL 119) (ax_ret 119) ∈ ax_G := ax_t4 (y := yX6_back) (c := cX6_back) (n := 2) (r := (Option.some FieldType.int)) 29 rfl
set_option maxRecDepth 100000 in
theorem cdX1_goBack : Cond.code (ax_y 120) (ax_cc 120) (ax_nL 120) (ax_ret 120) ∈ ax_G := ax_t4 (y := yX1_goBack) (c := cX1_goBack) (n := 3) (r := (Option.none : Option FieldType)) 33 rfl
set_option maxRecDepth 100000 in
theorem cdX6_sheet : Cond.code (ax_y 121) (ax_cc 121) (ax_nL 121) (ax_ret 121) ∈ ax_G := ax_t4 (y := yX6_sheet) (c := cX6_sheet) (n := 5) (r := (Option.some FieldType.int)) 37 rfl
set_option maxRecDepth 100000 in
theorem cdX6_cell : Cond.code (ax_y 122) (ax_cc 122) (ax_nL 122) (ax_ret 122) ∈ ax_G := ax_t4 (y := yX6_cell) (c := cX6_cell) (n := 5) (r := (Option.some FieldType.int)) 41 rfl
set_option maxRecDepth 100000 in
theorem cdX6_copy : Cond.code (ax_y 123) (ax_cc 123) (ax_nL 123) (ax_ret 123) ∈ ax_G := ax_t4 (y := yX6_copy) (c := cX6_copy) (n := 8) (r := (Option.some FieldType.int)) 46 rfl
set_option maxRecDepth 100000 in
theorem cdX4_hasRun : Cond.code (ax_y 124) (ax_cc 124) (ax_nL 124) (ax_ret 124) ∈ ax_G := ax_t4 (y := yX4_hasRun) (c := cX4_hasRun) (n := 3) (r := (Option.some FieldType.boolean)) 50 rfl
set_option maxRecDepth 100000 in
theorem cdX6_bitsBy : Cond.code (ax_y 125) (ax_cc 125) (ax_nL 125) (ax_ret 125) ∈ ax_G := ax_t4 (y := yX6_bitsBy) (c := cX6_bitsBy) (n := 10) (r := (Option.some FieldType.int)) 57 rfl
set_option maxRecDepth 100000 in
theorem cdX6_taken : Cond.code (ax_y 126) (ax_cc 126) (ax_nL 126) (ax_ret 126) ∈ ax_G := ax_t4 (y := yX6_taken) (c := cX6_taken) (n := 5) (r := (Option.some FieldType.int)) 63 rfl
set_option maxRecDepth 100000 in
theorem cdX7_init : Cond.code (ax_y 127) (ax_cc 127) (ax_nL 127) (ax_ret 127) ∈ ax_G := ax_t4 (y := yX7_init) (c := cX7_init) (n := 2) (r := (Option.none : Option FieldType)) 69 rfl
set_option maxRecDepth 100000 in
theorem cdX7_text : Cond.code (ax_y 128) (ax_cc 128) (ax_nL 128) (ax_ret 128) ∈ ax_G := ax_t4 (y := yX7_text) (c := cX7_text) (n := 3) (r := (Option.some FieldType.int)) 74 rfl
set_option maxRecDepth 100000 in
theorem cdX7_next : Cond.code (ax_y 129) (ax_cc 129) (ax_nL 129) (ax_ret 129) ∈ ax_G := ax_t4 (y := yX7_next) (c := cX7_next) (n := 3) (r := (Option.none : Option FieldType)) 78 rfl
set_option maxRecDepth 100000 in
theorem cdX7_in : Cond.code (ax_y 130) (ax_cc 130) (ax_nL 130) (ax_ret 130) ∈ ax_G := ax_t4 (y := yX7_in) (c := cX7_in) (n := 3) (r := (Option.some FieldType.boolean)) 81 rfl
set_option maxRecDepth 100000 in
theorem cdX7_wordFrom : Cond.code (ax_y 131) (ax_cc 131) (ax_nL 131) (ax_ret 131) ∈ ax_G := ax_t4 (y := yX7_wordFrom) (c := cX7_wordFrom) (n := 6) (r := (Option.some FieldType.int)) 85 rfl
set_option maxRecDepth 100000 in
theorem cdX7_eRead : Cond.code (ax_y 132) (ax_cc 132) (ax_nL 132) (ax_ret 132) ∈ ax_G := ax_t4 (y := yX7_eRead) (c := cX7_eRead) (n := 4) (r := (Option.some FieldType.boolean)) 89 rfl
set_option maxRecDepth 100000 in
theorem cdX7_puts : Cond.code (ax_y 133) (ax_cc 133) (ax_nL 133) (ax_ret 133) ∈ ax_G := ax_t4 (y := yX7_puts) (c := cX7_puts) (n := 2) (r := (Option.none : Option FieldType)) 94 rfl
set_option maxRecDepth 100000 in
theorem cdX7_unwinds : Cond.code (ax_y 134) (ax_cc 134) (ax_nL 134) (ax_ret 134) ∈ ax_G := ax_t4 (y := yX7_unwinds) (c := cX7_unwinds) (n := 3) (r := (Option.none : Option FieldType)) 98 rfl
set_option maxRecDepth 100000 in
theorem cdX7_rank : Cond.code (ax_y 135) (ax_cc 135) (ax_nL 135) (ax_ret 135) ∈ ax_G := ax_t4 (y := yX7_rank) (c := cX7_rank) (n := 1) (r := (Option.some FieldType.int)) 101 rfl
set_option maxRecDepth 100000 in
theorem cdX7_opensOne : Cond.code (ax_y 136) (ax_cc 136) (ax_nL 136) (ax_ret 136) ∈ ax_G := ax_t4 (y := yX7_opensOne) (c := cX7_opensOne) (n := 2) (r := (Option.some FieldType.boolean)) 105 rfl
set_option maxRecDepth 100000 in
theorem cdX7_holds : Cond.code (ax_y 137) (ax_cc 137) (ax_nL 137) (ax_ret 137) ∈ ax_G := ax_t4 (y := yX7_holds) (c := cX7_holds) (n := 2) (r := (Option.none : Option FieldType)) 109 rfl
set_option maxRecDepth 100000 in
theorem cdX7_signOf : Cond.code (ax_y 138) (ax_cc 138) (ax_nL 138) (ax_ret 138) ∈ ax_G := ax_t4 (y := yX7_signOf) (c := cX7_signOf) (n := 1) (r := (Option.some FieldType.int)) 113 rfl
set_option maxRecDepth 100000 in
theorem cdX7_between : Cond.code (ax_y 139) (ax_cc 139) (ax_nL 139) (ax_ret 139) ∈ ax_G := ax_t4 (y := yX7_between) (c := cX7_between) (n := 2) (r := (Option.some FieldType.boolean)) 117 rfl
set_option maxRecDepth 100000 in
theorem cdX7_count : Cond.code (ax_y 140) (ax_cc 140) (ax_nL 140) (ax_ret 140) ∈ ax_G := ax_t4 (y := yX7_count) (c := cX7_count) (n := 2) (r := (Option.some FieldType.int)) 239 rfl
set_option maxRecDepth 100000 in
theorem cdX7_setOf : Cond.code (ax_y 141) (ax_cc 141) (ax_nL 141) (ax_ret 141) ∈ ax_G := ax_t5 (y := yX7_setOf) (c := cX7_setOf) (n := 5) (r := (Option.some FieldType.int)) 3 rfl
set_option maxRecDepth 100000 in
theorem cdX7_isFireplace : Cond.code (ax_y 142) (ax_cc 142) (ax_nL 142) (ax_ret 142) ∈ ax_G := ax_t5 (y := yX7_isFireplace) (c := cX7_isFireplace) (n := 4) (r := (Option.some FieldType.boolean)) 7 rfl
set_option maxRecDepth 100000 in
theorem cdX7_isBit : Cond.code (ax_y 143) (ax_cc 143) (ax_nL 143) (ax_ret 143) ∈ ax_G := ax_t5 (y := yX7_isBit) (c := cX7_isBit) (n := 2) (r := (Option.some FieldType.boolean)) 11 rfl
set_option maxRecDepth 100000 in
theorem cdX7_isPot : Cond.code (ax_y 144) (ax_cc 144) (ax_nL 144) (ax_ret 144) ∈ ax_G := ax_t5 (y := yX7_isPot) (c := cX7_isPot) (n := 2) (r := (Option.some FieldType.boolean)) 15 rfl
set_option maxRecDepth 100000 in
theorem cdX7_ones : Cond.code (ax_y 145) (ax_cc 145) (ax_nL 145) (ax_ret 145) ∈ ax_G := ax_t5 (y := yX7_ones) (c := cX7_ones) (n := 3) (r := (Option.some FieldType.int)) 18 rfl
set_option maxRecDepth 100000 in
theorem cdX7_feed : Cond.code (ax_y 146) (ax_cc 146) (ax_nL 146) (ax_ret 146) ∈ ax_G := ax_t5 (y := yX7_feed) (c := cX7_feed) (n := 8) (r := (Option.some FieldType.int)) 22 rfl
set_option maxRecDepth 100000 in
theorem cdX7_isByte : Cond.code (ax_y 147) (ax_cc 147) (ax_nL 147) (ax_ret 147) ∈ ax_G := ax_t5 (y := yX7_isByte) (c := cX7_isByte) (n := 1) (r := (Option.some FieldType.boolean)) 25 rfl
set_option maxRecDepth 100000 in
theorem cdX7_force : Cond.code (ax_y 148) (ax_cc 148) (ax_nL 148) (ax_ret 148) ∈ ax_G := ax_t5 (y := yX7_force) (c := cX7_force) (n := 3) (r := (Option.some FieldType.int)) 30 rfl
set_option maxRecDepth 100000 in
theorem cdX7_asks : Cond.code (ax_y 149) (ax_cc 149) (ax_nL 149) (ax_ret 149) ∈ ax_G := ax_t5 (y := yX7_asks) (c := cX7_asks) (n := 5) (r := (Option.some FieldType.int)) 34 rfl
set_option maxRecDepth 100000 in
theorem cdX7_asksOf : Cond.code (ax_y 150) (ax_cc 150) (ax_nL 150) (ax_ret 150) ∈ ax_G := ax_t5 (y := yX7_asksOf) (c := cX7_asksOf) (n := 5) (r := (Option.some FieldType.int)) 38 rfl
set_option maxRecDepth 100000 in
theorem cdX7_is : Cond.code (ax_y 151) (ax_cc 151) (ax_nL 151) (ax_ret 151) ∈ ax_G := ax_t5 (y := yX7_is) (c := cX7_is) (n := 4) (r := (Option.some FieldType.int)) 42 rfl
set_option maxRecDepth 100000 in
theorem cdX7_within : Cond.code (ax_y 152) (ax_cc 152) (ax_nL 152) (ax_ret 152) ∈ ax_G := ax_t5 (y := yX7_within) (c := cX7_within) (n := 3) (r := (Option.some FieldType.int)) 45 rfl
set_option maxRecDepth 100000 in
theorem cdX7_worth : Cond.code (ax_y 153) (ax_cc 153) (ax_nL 153) (ax_ret 153) ∈ ax_G := ax_t5 (y := yX7_worth) (c := cX7_worth) (n := 5) (r := (Option.some FieldType.int)) 49 rfl
set_option maxRecDepth 100000 in
theorem cdX7_two : Cond.code (ax_y 154) (ax_cc 154) (ax_nL 154) (ax_ret 154) ∈ ax_G := ax_t5 (y := yX7_two) (c := cX7_two) (n := 3) (r := (Option.some FieldType.int)) 52 rfl
set_option maxRecDepth 100000 in
theorem cdX7_bit : Cond.code (ax_y 155) (ax_cc 155) (ax_nL 155) (ax_ret 155) ∈ ax_G := ax_t5 (y := yX7_bit) (c := cX7_bit) (n := 6) (r := (Option.some FieldType.int)) 56 rfl
set_option maxRecDepth 100000 in
theorem cdX7_mend : Cond.code (ax_y 156) (ax_cc 156) (ax_nL 156) (ax_ret 156) ∈ ax_G := ax_t5 (y := yX7_mend) (c := cX7_mend) (n := 5) (r := (Option.some FieldType.int)) 60 rfl
set_option maxRecDepth 100000 in
theorem cdX7_isSo : Cond.code (ax_y 157) (ax_cc 157) (ax_nL 157) (ax_ret 157) ∈ ax_G := ax_t5 (y := yX7_isSo) (c := cX7_isSo) (n := 2) (r := (Option.some FieldType.boolean)) 63 rfl
set_option maxRecDepth 100000 in
theorem cdX7_lay : Cond.code (ax_y 158) (ax_cc 158) (ax_nL 158) (ax_ret 158) ∈ ax_G := ax_t5 (y := yX7_lay) (c := cX7_lay) (n := 4) (r := (Option.some FieldType.int)) 67 rfl
set_option maxRecDepth 100000 in
theorem cdX7_told : Cond.code (ax_y 159) (ax_cc 159) (ax_nL 159) (ax_ret 159) ∈ ax_G := ax_t5 (y := yX7_told) (c := cX7_told) (n := 3) (r := (Option.some FieldType.int)) 71 rfl
set_option maxRecDepth 100000 in
theorem cdX7_leaks : Cond.code (ax_y 160) (ax_cc 160) (ax_nL 160) (ax_ret 160) ∈ ax_G := ax_t5 (y := yX7_leaks) (c := cX7_leaks) (n := 2) (r := (Option.some FieldType.int)) 75 rfl
set_option maxRecDepth 100000 in
theorem cdX7_all : Cond.code (ax_y 161) (ax_cc 161) (ax_nL 161) (ax_ret 161) ∈ ax_G := ax_t5 (y := yX7_all) (c := cX7_all) (n := 2) (r := (Option.some FieldType.int)) 79 rfl
set_option maxRecDepth 100000 in
theorem cdX7_flue : Cond.code (ax_y 162) (ax_cc 162) (ax_nL 162) (ax_ret 162) ∈ ax_G := ax_t5 (y := yX7_flue) (c := cX7_flue) (n := 3) (r := (Option.some FieldType.int)) 83 rfl
set_option maxRecDepth 100000 in
theorem cdX7_lastOf : Cond.code (ax_y 163) (ax_cc 163) (ax_nL 163) (ax_ret 163) ∈ ax_G := ax_t5 (y := yX7_lastOf) (c := cX7_lastOf) (n := 3) (r := (Option.some FieldType.int)) 87 rfl
set_option maxRecDepth 100000 in
theorem cdX7_flueOf : Cond.code (ax_y 164) (ax_cc 164) (ax_nL 164) (ax_ret 164) ∈ ax_G := ax_t5 (y := yX7_flueOf) (c := cX7_flueOf) (n := 4) (r := (Option.some FieldType.int)) 91 rfl
set_option maxRecDepth 100000 in
theorem cdX7_fireplacesOf : Cond.code (ax_y 165) (ax_cc 165) (ax_nL 165) (ax_ret 165) ∈ ax_G := ax_t5 (y := yX7_fireplacesOf) (c := cX7_fireplacesOf) (n := 4) (r := (Option.some FieldType.int)) 95 rfl
set_option maxRecDepth 100000 in
theorem cdX7_rodsOf : Cond.code (ax_y 166) (ax_cc 166) (ax_nL 166) (ax_ret 166) ∈ ax_G := ax_t5 (y := yX7_rodsOf) (c := cX7_rodsOf) (n := 4) (r := (Option.some FieldType.int)) 99 rfl
set_option maxRecDepth 100000 in
theorem cdX7_join : Cond.code (ax_y 167) (ax_cc 167) (ax_nL 167) (ax_ret 167) ∈ ax_G := ax_t5 (y := yX7_join) (c := cX7_join) (n := 5) (r := (Option.some FieldType.int)) 103 rfl
set_option maxRecDepth 100000 in
theorem cdX7_rod : Cond.code (ax_y 168) (ax_cc 168) (ax_nL 168) (ax_ret 168) ∈ ax_G := ax_t5 (y := yX7_rod) (c := cX7_rod) (n := 4) (r := (Option.some FieldType.int)) 107 rfl
set_option maxRecDepth 100000 in
theorem cdX7_reached : Cond.code (ax_y 169) (ax_cc 169) (ax_nL 169) (ax_ret 169) ∈ ax_G := ax_t5 (y := yX7_reached) (c := cX7_reached) (n := 5) (r := (Option.some FieldType.int)) 111 rfl
set_option maxRecDepth 100000 in
theorem cdX7_heavyAt : Cond.code (ax_y 170) (ax_cc 170) (ax_nL 170) (ax_ret 170) ∈ ax_G := ax_t5 (y := yX7_heavyAt) (c := cX7_heavyAt) (n := 4) (r := (Option.some FieldType.int)) 115 rfl
set_option maxRecDepth 100000 in
theorem cdX7_heavy : Cond.code (ax_y 171) (ax_cc 171) (ax_nL 171) (ax_ret 171) ∈ ax_G := ax_t5 (y := yX7_heavy) (c := cX7_heavy) (n := 2) (r := (Option.some FieldType.int)) 119 rfl
set_option maxRecDepth 100000 in
theorem cdX7_push : Cond.code (ax_y 172) (ax_cc 172) (ax_nL 172) (ax_ret 172) ∈ ax_G := ax_t5 (y := yX7_push) (c := cX7_push) (n := 5) (r := (Option.some FieldType.int)) 123 rfl
set_option maxRecDepth 100000 in
theorem cdX7_staysIn : Cond.code (ax_y 173) (ax_cc 173) (ax_nL 173) (ax_ret 173) ∈ ax_G := ax_t5 (y := yX7_staysIn) (c := cX7_staysIn) (n := 4) (r := (Option.some FieldType.int)) 127 rfl
set_option maxRecDepth 100000 in
theorem cdX7_sweep : Cond.code (ax_y 174) (ax_cc 174) (ax_nL 174) (ax_ret 174) ∈ ax_G := ax_t5 (y := yX7_sweep) (c := cX7_sweep) (n := 3) (r := (Option.some FieldType.int)) 131 rfl
set_option maxRecDepth 100000 in
theorem cdX7_sweeps : Cond.code (ax_y 175) (ax_cc 175) (ax_nL 175) (ax_ret 175) ∈ ax_G := ax_t5 (y := yX7_sweeps) (c := cX7_sweeps) (n := 7) (r := (Option.some FieldType.int)) 135 rfl
set_option maxRecDepth 100000 in
theorem cdX7_remains : Cond.code (ax_y 176) (ax_cc 176) (ax_nL 176) (ax_ret 176) ∈ ax_G := ax_t5 (y := yX7_remains) (c := cX7_remains) (n := 2) (r := (Option.some FieldType.int)) 139 rfl
set_option maxRecDepth 100000 in
theorem cdX7_needs : Cond.code (ax_y 177) (ax_cc 177) (ax_nL 177) (ax_ret 177) ∈ ax_G := ax_t5 (y := yX7_needs) (c := cX7_needs) (n := 4) (r := (Option.some FieldType.int)) 143 rfl
set_option maxRecDepth 100000 in
theorem cdX7_fire : Cond.code (ax_y 178) (ax_cc 178) (ax_nL 178) (ax_ret 178) ∈ ax_G := ax_t5 (y := yX7_fire) (c := cX7_fire) (n := 5) (r := (Option.some FieldType.int)) 147 rfl
set_option maxRecDepth 100000 in
theorem cdX7_isFire : Cond.code (ax_y 179) (ax_cc 179) (ax_nL 179) (ax_ret 179) ∈ ax_G := ax_t5 (y := yX7_isFire) (c := cX7_isFire) (n := 1) (r := (Option.some FieldType.boolean)) 150 rfl
set_option maxRecDepth 100000 in
theorem cdX7_burnsOnce : Cond.code (ax_y 180) (ax_cc 180) (ax_nL 180) (ax_ret 180) ∈ ax_G := ax_t5 (y := yX7_burnsOnce) (c := cX7_burnsOnce) (n := 4) (r := (Option.none : Option FieldType)) 154 rfl
set_option maxRecDepth 100000 in
theorem cdX7_grows : Cond.code (ax_y 181) (ax_cc 181) (ax_nL 181) (ax_ret 181) ∈ ax_G := ax_t5 (y := yX7_grows) (c := cX7_grows) (n := 5) (r := (Option.some FieldType.int)) 158 rfl
set_option maxRecDepth 100000 in
theorem cdX7_sootOf : Cond.code (ax_y 182) (ax_cc 182) (ax_nL 182) (ax_ret 182) ∈ ax_G := ax_t5 (y := yX7_sootOf) (c := cX7_sootOf) (n := 4) (r := (Option.some FieldType.int)) 162 rfl
set_option maxRecDepth 100000 in
theorem cdX7_smoke : Cond.code (ax_y 183) (ax_cc 183) (ax_nL 183) (ax_ret 183) ∈ ax_G := ax_t5 (y := yX7_smoke) (c := cX7_smoke) (n := 8) (r := (Option.some FieldType.int)) 166 rfl
set_option maxRecDepth 100000 in
theorem cdX7_draw : Cond.code (ax_y 184) (ax_cc 184) (ax_nL 184) (ax_ret 184) ∈ ax_G := ax_t5 (y := yX7_draw) (c := cX7_draw) (n := 3) (r := (Option.some FieldType.int)) 170 rfl
set_option maxRecDepth 100000 in
theorem cdX7_drawOf : Cond.code (ax_y 185) (ax_cc 185) (ax_nL 185) (ax_ret 185) ∈ ax_G := ax_t5 (y := yX7_drawOf) (c := cX7_drawOf) (n := 5) (r := (Option.some FieldType.int)) 174 rfl
set_option maxRecDepth 100000 in
theorem cdX7_smokes : Cond.code (ax_y 186) (ax_cc 186) (ax_nL 186) (ax_ret 186) ∈ ax_G := ax_t5 (y := yX7_smokes) (c := cX7_smokes) (n := 4) (r := (Option.some FieldType.int)) 179 rfl
set_option maxRecDepth 100000 in
theorem cdX7_fine : Cond.code (ax_y 187) (ax_cc 187) (ax_nL 187) (ax_ret 187) ∈ ax_G := ax_t5 (y := yX7_fine) (c := cX7_fine) (n := 7) (r := (Option.some FieldType.long)) 183 rfl
set_option maxRecDepth 100000 in
theorem cdX7_keeps : Cond.code (ax_y 188) (ax_cc 188) (ax_nL 188) (ax_ret 188) ∈ ax_G := ax_t5 (y := yX7_keeps) (c := cX7_keeps) (n := 2) (r := (Option.none : Option FieldType)) 189 rfl
set_option maxRecDepth 100000 in
theorem cdX7_fineBehind : Cond.code (ax_y 189) (ax_cc 189) (ax_nL 189) (ax_ret 189) ∈ ax_G := ax_t5 (y := yX7_fineBehind) (c := cX7_fineBehind) (n := 8) (r := (Option.some FieldType.long)) 193 rfl
set_option maxRecDepth 100000 in
theorem cdX7_laysBack : Cond.code (ax_y 190) (ax_cc 190) (ax_nL 190) (ax_ret 190) ∈ ax_G := ax_t5 (y := yX7_laysBack) (c := cX7_laysBack) (n := 2) (r := (Option.none : Option FieldType)) 198 rfl
set_option maxRecDepth 100000 in
theorem cdX7_when : Cond.code (ax_y 191) (ax_cc 191) (ax_nL 191) (ax_ret 191) ∈ ax_G := ax_t5 (y := yX7_when) (c := cX7_when) (n := 8) (r := (Option.some FieldType.int)) 202 rfl
set_option maxRecDepth 100000 in
theorem cdX7_often : Cond.code (ax_y 192) (ax_cc 192) (ax_nL 192) (ax_ret 192) ∈ ax_G := ax_t5 (y := yX7_often) (c := cX7_often) (n := 6) (r := (Option.some FieldType.int)) 207 rfl
set_option maxRecDepth 100000 in
theorem cdX7_keepsBelow : Cond.code (ax_y 193) (ax_cc 193) (ax_nL 193) (ax_ret 193) ∈ ax_G := ax_t5 (y := yX7_keepsBelow) (c := cX7_keepsBelow) (n := 9) (r := (Option.some FieldType.boolean)) 211 rfl
set_option maxRecDepth 100000 in
theorem cdX7_round : Cond.code (ax_y 194) (ax_cc 194) (ax_nL 194) (ax_ret 194) ∈ ax_G := ax_t5 (y := yX7_round) (c := cX7_round) (n := 5) (r := (Option.some FieldType.int)) 215 rfl
set_option maxRecDepth 100000 in
theorem cdX7_orders : Cond.code (ax_y 195) (ax_cc 195) (ax_nL 195) (ax_ret 195) ∈ ax_G := ax_t5 (y := yX7_orders) (c := cX7_orders) (n := 7) (r := (Option.none : Option FieldType)) 219 rfl
set_option maxRecDepth 100000 in
theorem cdX7_goesRound : Cond.code (ax_y 196) (ax_cc 196) (ax_nL 196) (ax_ret 196) ∈ ax_G := ax_t5 (y := yX7_goesRound) (c := cX7_goesRound) (n := 7) (r := (Option.none : Option FieldType)) 223 rfl
set_option maxRecDepth 100000 in
theorem cdX7_mostSoot : Cond.code (ax_y 197) (ax_cc 197) (ax_nL 197) (ax_ret 197) ∈ ax_G := ax_t5 (y := yX7_mostSoot) (c := cX7_mostSoot) (n := 3) (r := (Option.some FieldType.int)) 227 rfl
set_option maxRecDepth 100000 in
theorem cdX7_ball : Cond.code (ax_y 198) (ax_cc 198) (ax_nL 198) (ax_ret 198) ∈ ax_G := ax_t5 (y := yX7_ball) (c := cX7_ball) (n := 7) (r := (Option.some FieldType.int)) 231 rfl
set_option maxRecDepth 100000 in
theorem cdX7_below : Cond.code (ax_y 199) (ax_cc 199) (ax_nL 199) (ax_ret 199) ∈ ax_G := ax_t5 (y := yX7_below) (c := cX7_below) (n := 3) (r := (Option.some FieldType.int)) 235 rfl
set_option maxRecDepth 100000 in
theorem cdX7_judge : Cond.code (ax_y 200) (ax_cc 200) (ax_nL 200) (ax_ret 200) ∈ ax_G := ax_t5 (y := yX7_judge) (c := cX7_judge) (n := 4) (r := (Option.some FieldType.int)) 239 rfl
set_option maxRecDepth 100000 in
theorem cdX7_toldWrong : Cond.code (ax_y 201) (ax_cc 201) (ax_nL 201) (ax_ret 201) ∈ ax_G := ax_t6 (y := yX7_toldWrong) (c := cX7_toldWrong) (n := 4) (r := (Option.some FieldType.int)) 3 rfl
set_option maxRecDepth 100000 in
theorem cdX7_sheetWrong : Cond.code (ax_y 202) (ax_cc 202) (ax_nL 202) (ax_ret 202) ∈ ax_G := ax_t6 (y := yX7_sheetWrong) (c := cX7_sheetWrong) (n := 2) (r := (Option.some FieldType.int)) 7 rfl
set_option maxRecDepth 100000 in
theorem cdX7_unlike : Cond.code (ax_y 203) (ax_cc 203) (ax_nL 203) (ax_ret 203) ∈ ax_G := ax_t6 (y := yX7_unlike) (c := cX7_unlike) (n := 4) (r := (Option.some FieldType.int)) 11 rfl
set_option maxRecDepth 100000 in
theorem cdX7_whose : Cond.code (ax_y 204) (ax_cc 204) (ax_nL 204) (ax_ret 204) ∈ ax_G := ax_t6 (y := yX7_whose) (c := cX7_whose) (n := 5) (r := (Option.some FieldType.int)) 15 rfl
set_option maxRecDepth 100000 in
theorem cdX7_laws : Cond.code (ax_y 205) (ax_cc 205) (ax_nL 205) (ax_ret 205) ∈ ax_G := ax_t6 (y := yX7_laws) (c := cX7_laws) (n := 7) (r := (Option.some FieldType.int)) 19 rfl
set_option maxRecDepth 100000 in
theorem cdX7_blocked : Cond.code (ax_y 206) (ax_cc 206) (ax_nL 206) (ax_ret 206) ∈ ax_G := ax_t6 (y := yX7_blocked) (c := cX7_blocked) (n := 9) (r := (Option.some FieldType.int)) 23 rfl
set_option maxRecDepth 100000 in
theorem cdX7_fitsBlocked : Cond.code (ax_y 207) (ax_cc 207) (ax_nL 207) (ax_ret 207) ∈ ax_G := ax_t6 (y := yX7_fitsBlocked) (c := cX7_fitsBlocked) (n := 8) (r := (Option.some FieldType.boolean)) 27 rfl
set_option maxRecDepth 100000 in
theorem cdX7_film : Cond.code (ax_y 208) (ax_cc 208) (ax_nL 208) (ax_ret 208) ∈ ax_G := ax_t6 (y := yX7_film) (c := cX7_film) (n := 5) (r := (Option.some FieldType.int)) 31 rfl
set_option maxRecDepth 100000 in
theorem cdX7_drawn : Cond.code (ax_y 209) (ax_cc 209) (ax_nL 209) (ax_ret 209) ∈ ax_G := ax_t6 (y := yX7_drawn) (c := cX7_drawn) (n := 5) (r := (Option.some FieldType.int)) 35 rfl
set_option maxRecDepth 100000 in
theorem cdX7_isYear : Cond.code (ax_y 210) (ax_cc 210) (ax_nL 210) (ax_ret 210) ∈ ax_G := ax_t6 (y := yX7_isYear) (c := cX7_isYear) (n := 3) (r := (Option.some FieldType.boolean)) 38 rfl
set_option maxRecDepth 100000 in
theorem cdX7_firstBurns : Cond.code (ax_y 211) (ax_cc 211) (ax_nL 211) (ax_ret 211) ∈ ax_G := ax_t6 (y := yX7_firstBurns) (c := cX7_firstBurns) (n := 11) (r := (Option.some FieldType.int)) 43 rfl
set_option maxRecDepth 100000 in
theorem cdX7_odds : Cond.code (ax_y 212) (ax_cc 212) (ax_nL 212) (ax_ret 212) ∈ ax_G := ax_t6 (y := yX7_odds) (c := cX7_odds) (n := 9) (r := (Option.some FieldType.long)) 49 rfl
set_option maxRecDepth 100000 in
theorem cdX7_lowest : Cond.code (ax_y 213) (ax_cc 213) (ax_nL 213) (ax_ret 213) ∈ ax_G := ax_t6 (y := yX7_lowest) (c := cX7_lowest) (n := 11) (r := (Option.some FieldType.long)) 53 rfl
set_option maxRecDepth 100000 in
theorem cdX7_image : Cond.code (ax_y 214) (ax_cc 214) (ax_nL 214) (ax_ret 214) ∈ ax_G := ax_t6 (y := yX7_image) (c := cX7_image) (n := 2) (r := (Option.some FieldType.int)) 57 rfl
set_option maxRecDepth 100000 in
theorem cdX7_back : Cond.code (ax_y 215) (ax_cc 215) (ax_nL 215) (ax_ret 215) ∈ ax_G := ax_t6 (y := yX7_back) (c := cX7_back) (n := 2) (r := (Option.some FieldType.int)) 61 rfl
set_option maxRecDepth 100000 in
theorem cdX7_sheet : Cond.code (ax_y 216) (ax_cc 216) (ax_nL 216) (ax_ret 216) ∈ ax_G := ax_t6 (y := yX7_sheet) (c := cX7_sheet) (n := 5) (r := (Option.some FieldType.int)) 65 rfl
set_option maxRecDepth 100000 in
theorem cdX7_cell : Cond.code (ax_y 217) (ax_cc 217) (ax_nL 217) (ax_ret 217) ∈ ax_G := ax_t6 (y := yX7_cell) (c := cX7_cell) (n := 4) (r := (Option.some FieldType.int)) 69 rfl
set_option maxRecDepth 100000 in
theorem cdX7_copy : Cond.code (ax_y 218) (ax_cc 218) (ax_nL 218) (ax_ret 218) ∈ ax_G := ax_t6 (y := yX7_copy) (c := cX7_copy) (n := 10) (r := (Option.some FieldType.int)) 73 rfl
set_option maxRecDepth 100000 in
theorem cdX7_bitsBy : Cond.code (ax_y 219) (ax_cc 219) (ax_nL 219) (ax_ret 219) ∈ ax_G := ax_t6 (y := yX7_bitsBy) (c := cX7_bitsBy) (n := 9) (r := (Option.some FieldType.int)) 77 rfl
set_option maxRecDepth 100000 in
theorem cdX7_taken : Cond.code (ax_y 220) (ax_cc 220) (ax_nL 220) (ax_ret 220) ∈ ax_G := ax_t6 (y := yX7_taken) (c := cX7_taken) (n := 4) (r := (Option.some FieldType.int)) 82 rfl
set_option maxRecDepth 100000 in
theorem cdX7_isUnder : Cond.code (ax_y 221) (ax_cc 221) (ax_nL 221) (ax_ret 221) ∈ ax_G := ax_t6 (y := yX7_isUnder) (c := cX7_isUnder) (n := 2) (r := (Option.some FieldType.boolean)) 85 rfl
