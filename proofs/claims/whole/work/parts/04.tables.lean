/-! tables, by program out of the task's words: methods, fields, calls, constants, with the places of their words in lw_tbl -/
def ax_nm (o : Nat) : String := match o with
  | 0 => "UpTheFlue$Bit"
  | 1 => "UpTheFlue$House"
  | 2 => "UpTheFlue$Law"
  | 3 => "UpTheFlue$Reader"
  | 4 => "UpTheFlue$Sheet"
  | 5 => "UpTheFlue"
  | 6 => "UpTheFlueModel"
  | 7 => "UpTheFlue$Sign"
  | 8 => "UpTheFlueLaw"
  | 9 => "java/lang/Math"
  | 10 => "java/lang/Integer"
  | 11 => "java/lang/String"
  | 12 => "java/lang/StringLatin1"
  | 13 => "java/lang/StringUTF16"
  | 14 => "jdk/internal/util/Preconditions"
  | 15 => "java/lang/System"
  | _ => "java/lang/Object"
abbrev jX6_init : Nat := 0
abbrev jX3_init : Nat := 1
abbrev jX2_init : Nat := 2
abbrev jX4_init : Nat := 3
abbrev jX3_write : Nat := 4
abbrev jJ0_length_8abf5 : Nat := 5
abbrev jJ0_coder_7d493 : Nat := 6
abbrev jJ0_charAt_5068e : Nat := 7
abbrev jJ0_isLatin1_aae02 : Nat := 8
abbrev jJ1_charAt_3b067 : Nat := 9
abbrev jJ0_checkIndex_df160 : Nat := 10
abbrev jJ3_checkIndex_8e157 : Nat := 11
abbrev jJ2_charAt_3b067 : Nat := 12
abbrev jJ2_checkIndex_2214a : Nat := 13
abbrev jJ2_length_9d52b : Nat := 14
abbrev jJ2_getChar_3b067 : Nat := 15
abbrev jX3_append : Nat := 16
abbrev jX3_read : Nat := 17
abbrev jX2_clear : Nat := 18
abbrev jX3_next : Nat := 19
abbrev jX3_skipBlanks : Nat := 20
abbrev jX3_byteAt : Nat := 21
abbrev jX3_isLetter : Nat := 22
abbrev jX3_readWord : Nat := 23
abbrev jX3_wordNumber : Nat := 24
abbrev jX3_isDigit : Nat := 25
abbrev jX3_readNumber : Nat := 26
abbrev jX5_ofByte : Nat := 27
abbrev jX3_readSaying : Nat := 28
abbrev jX2_addStep : Nat := 29
abbrev jX3_opens : Nat := 30
abbrev jX3_lastWaiting : Nat := 31
abbrev jX5_binds : Nat := 32
abbrev jX3_await : Nat := 33
abbrev jX3_settle : Nat := 34
abbrev jX3_closes : Nat := 35
abbrev jX3_joins : Nat := 36
abbrev jX5_joinsTwo : Nat := 37
abbrev jX2_endPart : Nat := 38
abbrev jX1_init : Nat := 39
abbrev jX6_count : Nat := 40
abbrev jX1_fireplaces : Nat := 41
abbrev jX1_fireplaceAt : Nat := 42
abbrev jX1_bitAt : Nat := 43
abbrev jX1_firstUnder : Nat := 44
abbrev jJ6_bitCount_0f7a4 : Nat := 45
abbrev jX1_pots : Nat := 46
abbrev jX6_feed : Nat := 47
abbrev jX6_in : Nat := 48
abbrev jX6_isByte : Nat := 49
abbrev jX6_text : Nat := 50
abbrev jX6_textAt : Nat := 51
abbrev jX6_force : Nat := 52
abbrev jX6_asks : Nat := 53
abbrev jX2_says : Nat := 54
abbrev jX0_isWide : Nat := 55
abbrev jJ9_max_7cf53 : Nat := 56
abbrev jX2_step : Nat := 57
abbrev jX2_joined : Nat := 58
abbrev jJ9_min_7cf53 : Nat := 59
abbrev jX6_bit : Nat := 60
abbrev jX1_isFull : Nat := 61
abbrev jX0_init : Nat := 62
abbrev jX1_add : Nat := 63
abbrev jX6_mend : Nat := 64
abbrev jX6_lay : Nat := 65
abbrev jX6_told : Nat := 66
abbrev jX6_numberOf : Nat := 67
abbrev jX0_leaks : Nat := 68
abbrev jX6_all : Nat := 69
abbrev jX6_flue : Nat := 70
abbrev jX0_last : Nat := 71
abbrev jX0_bitsUp : Nat := 72
abbrev jX1_fireplacesUnder : Nat := 73
abbrev jX0_rodsUpTo : Nat := 74
abbrev jX6_join : Nat := 75
abbrev jX0_firstUpIn : Nat := 76
abbrev jX6_rod : Nat := 77
abbrev jX0_reachedBy : Nat := 78
abbrev jX2_heavyBy : Nat := 79
abbrev jX6_push : Nat := 80
abbrev jX1_staysIn : Nat := 81
abbrev jX6_sweep : Nat := 82
abbrev jX1_brush : Nat := 83
abbrev jX0_left : Nat := 84
abbrev jX6_needs : Nat := 85
abbrev jX6_fire : Nat := 86
abbrev jX1_light : Nat := 87
abbrev jX0_grows : Nat := 88
abbrev jX0_isOne : Nat := 89
abbrev jX0_sootUp : Nat := 90
abbrev jX6_smoke : Nat := 91
abbrev jX6_draw : Nat := 92
abbrev jX0_drawUp : Nat := 93
abbrev jX6_smokes : Nat := 94
abbrev jX6_fine : Nat := 95
abbrev jX1_setSootAside : Nat := 96
abbrev jX1_fineBehindFire : Nat := 97
abbrev jX1_putSootBack : Nat := 98
abbrev jX6_when : Nat := 99
abbrev jX6_often : Nat := 100
abbrev jX1_staysBelow : Nat := 101
abbrev jX0_mostSootUp : Nat := 102
abbrev jX6_round : Nat := 103
abbrev jX1_bestRound : Nat := 104
abbrev jX1_gatherPlaces : Nat := 105
abbrev jX1_layOrder : Nat := 106
abbrev jX1_mostSootInRound : Nat := 107
abbrev jX1_mostSoot : Nat := 108
abbrev jX1_orderAsDigits : Nat := 109
abbrev jX6_ball : Nat := 110
abbrev jX6_judge : Nat := 111
abbrev jX6_sheetAt : Nat := 112
abbrev jX4_isMissing : Nat := 113
abbrev jX4_otherwise : Nat := 114
abbrev jX4_get : Nat := 115
abbrev jX4_has : Nat := 116
abbrev jX6_whose : Nat := 117
abbrev jX6_laws : Nat := 118
abbrev jX6_blocked : Nat := 119
abbrev jX4_tellsBlocked : Nat := 120
abbrev jX6_film : Nat := 121
abbrev jX4_become : Nat := 122
abbrev jX4_put : Nat := 123
abbrev jX6_drawn : Nat := 124
abbrev jX1_weighBurning : Nat := 125
abbrev jX1_firstBurning : Nat := 126
abbrev jX6_odds : Nat := 127
abbrev jX6_image : Nat := 128
abbrev jX1_keepImage : Nat := 129
abbrev jX6_back : Nat := 130
abbrev jX1_goBack : Nat := 131
abbrev jX6_sheet : Nat := 132
abbrev jX6_cell : Nat := 133
abbrev jX6_copy : Nat := 134
abbrev jX4_hasRun : Nat := 135
abbrev jX6_bitsBy : Nat := 136
abbrev jX6_taken : Nat := 137
abbrev jX7_init : Nat := 138
abbrev jX7_text : Nat := 139
abbrev jX7_next : Nat := 140
abbrev jX7_in : Nat := 141
abbrev jX7_wordFrom : Nat := 142
abbrev jX7_eRead : Nat := 143
abbrev jX7_puts : Nat := 144
abbrev jX7_unwinds : Nat := 145
abbrev jX7_rank : Nat := 146
abbrev jX7_opensOne : Nat := 147
abbrev jX7_holds : Nat := 148
abbrev jX7_signOf : Nat := 149
abbrev jX7_between : Nat := 150
abbrev jX7_count : Nat := 151
abbrev jX7_setOf : Nat := 152
abbrev jX7_isFireplace : Nat := 153
abbrev jX7_isBit : Nat := 154
abbrev jX7_isPot : Nat := 155
abbrev jX7_ones : Nat := 156
abbrev jX7_feed : Nat := 157
abbrev jX7_isByte : Nat := 158
abbrev jX7_force : Nat := 159
abbrev jX7_asks : Nat := 160
abbrev jX7_asksOf : Nat := 161
abbrev jX7_is : Nat := 162
abbrev jX7_within : Nat := 163
abbrev jX7_worth : Nat := 164
abbrev jX7_two : Nat := 165
abbrev jX7_bit : Nat := 166
abbrev jX7_mend : Nat := 167
abbrev jX7_isSo : Nat := 168
abbrev jX7_lay : Nat := 169
abbrev jX7_told : Nat := 170
abbrev jX7_leaks : Nat := 171
abbrev jX7_all : Nat := 172
abbrev jX7_flue : Nat := 173
abbrev jX7_lastOf : Nat := 174
abbrev jX7_flueOf : Nat := 175
abbrev jX7_fireplacesOf : Nat := 176
abbrev jX7_rodsOf : Nat := 177
abbrev jX7_join : Nat := 178
abbrev jX7_rod : Nat := 179
abbrev jX7_reached : Nat := 180
abbrev jX7_heavyAt : Nat := 181
abbrev jX7_heavy : Nat := 182
abbrev jX7_push : Nat := 183
abbrev jX7_staysIn : Nat := 184
abbrev jX7_sweep : Nat := 185
abbrev jX7_sweeps : Nat := 186
abbrev jX7_remains : Nat := 187
abbrev jX7_needs : Nat := 188
abbrev jX7_fire : Nat := 189
abbrev jX7_isFire : Nat := 190
abbrev jX7_burnsOnce : Nat := 191
abbrev jX7_grows : Nat := 192
abbrev jX7_sootOf : Nat := 193
abbrev jX7_smoke : Nat := 194
abbrev jX7_draw : Nat := 195
abbrev jX7_drawOf : Nat := 196
abbrev jX7_smokes : Nat := 197
abbrev jX7_fine : Nat := 198
abbrev jX7_keeps : Nat := 199
abbrev jX7_fineBehind : Nat := 200
abbrev jX7_laysBack : Nat := 201
abbrev jX7_when : Nat := 202
abbrev jX7_often : Nat := 203
abbrev jX7_keepsBelow : Nat := 204
abbrev jX7_round : Nat := 205
abbrev jX7_orders : Nat := 206
abbrev jX7_goesRound : Nat := 207
abbrev jX7_mostSoot : Nat := 208
abbrev jX7_ball : Nat := 209
abbrev jX7_below : Nat := 210
abbrev jX7_judge : Nat := 211
abbrev jX7_toldWrong : Nat := 212
abbrev jX7_sheetWrong : Nat := 213
abbrev jX7_unlike : Nat := 214
abbrev jX7_whose : Nat := 215
abbrev jX7_laws : Nat := 216
abbrev jX7_blocked : Nat := 217
abbrev jX7_fitsBlocked : Nat := 218
abbrev jX7_film : Nat := 219
abbrev jX7_drawn : Nat := 220
abbrev jX7_isYear : Nat := 221
abbrev jX7_firstBurns : Nat := 222
abbrev jX7_odds : Nat := 223
abbrev jX7_lowest : Nat := 224
abbrev jX7_image : Nat := 225
abbrev jX7_back : Nat := 226
abbrev jX7_sheet : Nat := 227
abbrev jX7_cell : Nat := 228
abbrev jX7_copy : Nat := 229
abbrev jX7_bitsBy : Nat := 230
abbrev jX7_taken : Nat := 231
abbrev jX7_isUnder : Nat := 232
def ax_mT : List (MethodName × (ByteArray × (Nat × (Option FieldType × (Nat × (Nat × (Nat × (Nat × (Nat × Nat))))))))) := [
  (yX6_init, cX6_init, 2, (Option.none : Option FieldType), 0, 2, 85, 84, 0, 66),
  (yX3_init, cX3_init, 1, (Option.none : Option FieldType), 0, 2, 93, 92, 0, 67),
  (yX2_init, cX2_init, 1, (Option.none : Option FieldType), 0, 2, 132, 131, 0, 68),
  (yX4_init, cX4_init, 1, (Option.none : Option FieldType), 0, 2, 153, 152, 0, 69),
  (yX3_write, cX3_write, 3, (Option.none : Option FieldType), 1, 1, 171, 169, 170, 67),
  (yJ0_length_8abf5, cJ0_length_8abf5, 1, (Option.some FieldType.int), 0, 1, 175, 173, 174, 70),
  (yJ0_coder_7d493, cJ0_coder_7d493, 1, (Option.some FieldType.byte), 0, 1, 179, 177, 178, 70),
  (yJ0_charAt_5068e, cJ0_charAt_5068e, 2, (Option.some FieldType.char), 1, 1, 185, 183, 184, 70),
  (yJ0_isLatin1_aae02, cJ0_isLatin1_aae02, 1, (Option.some FieldType.boolean), 0, 1, 189, 187, 188, 70),
  (yJ1_charAt_3b067, cJ1_charAt_3b067, 2, (Option.some FieldType.char), 2, 0, 192, 191, 0, 71),
  (yJ0_checkIndex_df160, cJ0_checkIndex_df160, 2, (Option.none : Option FieldType), 2, 0, 195, 194, 0, 70),
  (yJ3_checkIndex_8e157, cJ3_checkIndex_8e157, 3, (Option.some FieldType.int), 3, 0, 200, 199, 0, 72),
  (yJ2_charAt_3b067, cJ2_charAt_3b067, 2, (Option.some FieldType.char), 2, 0, 203, 202, 0, 73),
  (yJ2_checkIndex_2214a, cJ2_checkIndex_2214a, 2, (Option.none : Option FieldType), 2, 0, 206, 205, 0, 73),
  (yJ2_length_9d52b, cJ2_length_9d52b, 1, (Option.some FieldType.int), 1, 0, 209, 208, 0, 73),
  (yJ2_getChar_3b067, cJ2_getChar_3b067, 2, (Option.some FieldType.char), 2, 0, 213, 212, 0, 73),
  (yX3_append, cX3_append, 2, (Option.none : Option FieldType), 1, 1, 223, 221, 222, 67),
  (yX3_read, cX3_read, 4, (Option.some FieldType.int), 1, 1, 227, 225, 226, 67),
  (yX2_clear, cX2_clear, 1, (Option.none : Option FieldType), 0, 1, 231, 229, 230, 68),
  (yX3_next, cX3_next, 2, (Option.none : Option FieldType), 0, 1, 235, 234, 0, 67),
  (yX3_skipBlanks, cX3_skipBlanks, 2, (Option.none : Option FieldType), 0, 1, 239, 238, 1, 67),
  (yX3_byteAt, cX3_byteAt, 2, (Option.some FieldType.int), 1, 1, 243, 242, 2, 67),
  (yX3_isLetter, cX3_isLetter, 1, (Option.some FieldType.boolean), 1, 0, 246, 245, 0, 67),
  (yX3_readWord, cX3_readWord, 2, (Option.none : Option FieldType), 0, 1, 250, 249, 3, 67),
  (yX3_wordNumber, cX3_wordNumber, 5, (Option.some FieldType.int), 0, 1, 254, 253, 4, 67),
  (yX3_isDigit, cX3_isDigit, 1, (Option.some FieldType.boolean), 1, 0, 258, 257, 0, 67),
  (yX3_readNumber, cX3_readNumber, 2, (Option.none : Option FieldType), 0, 1, 262, 261, 5, 67),
  (yX5_ofByte, cX5_ofByte, 1, (Option.some FieldType.int), 1, 0, 265, 264, 0, 74),
  (yX3_readSaying, cX3_readSaying, 4, (Option.some FieldType.boolean), 1, 1, 269, 268, 6, 67),
  (yX2_addStep, cX2_addStep, 3, (Option.none : Option FieldType), 2, 1, 273, 271, 272, 68),
  (yX3_opens, cX3_opens, 2, (Option.some FieldType.boolean), 0, 1, 277, 276, 7, 67),
  (yX3_lastWaiting, cX3_lastWaiting, 1, (Option.some FieldType.int), 0, 1, 281, 280, 8, 67),
  (yX5_binds, cX5_binds, 1, (Option.some FieldType.int), 1, 0, 284, 283, 0, 74),
  (yX3_await, cX3_await, 2, (Option.none : Option FieldType), 1, 1, 288, 287, 9, 67),
  (yX3_settle, cX3_settle, 5, (Option.none : Option FieldType), 2, 1, 292, 291, 10, 67),
  (yX3_closes, cX3_closes, 2, (Option.some FieldType.boolean), 1, 1, 296, 295, 11, 67),
  (yX3_joins, cX3_joins, 3, (Option.some FieldType.boolean), 1, 1, 300, 299, 12, 67),
  (yX5_joinsTwo, cX5_joinsTwo, 1, (Option.some FieldType.boolean), 1, 0, 303, 302, 0, 74),
  (yX2_endPart, cX2_endPart, 2, (Option.none : Option FieldType), 1, 1, 307, 305, 306, 68),
  (yX1_init, cX1_init, 2, (Option.none : Option FieldType), 1, 2, 312, 311, 0, 75),
  (yX6_count, cX6_count, 2, (Option.some FieldType.int), 1, 1, 366, 364, 365, 66),
  (yX1_fireplaces, cX1_fireplaces, 3, (Option.some FieldType.int), 0, 1, 370, 368, 369, 75),
  (yX1_fireplaceAt, cX1_fireplaceAt, 3, (Option.some (FieldType.object "UpTheFlue$Bit")), 1, 1, 374, 372, 373, 75),
  (yX1_bitAt, cX1_bitAt, 2, (Option.some (FieldType.object "UpTheFlue$Bit")), 1, 1, 378, 376, 377, 75),
  (yX1_firstUnder, cX1_firstUnder, 4, (Option.some (FieldType.object "UpTheFlue$Bit")), 1, 1, 382, 380, 381, 75),
  (yJ6_bitCount_0f7a4, cJ6_bitCount_0f7a4, 1, (Option.some FieldType.int), 1, 0, 385, 384, 0, 77),
  (yX1_pots, cX1_pots, 4, (Option.some FieldType.int), 0, 1, 392, 390, 391, 75),
  (yX6_feed, cX6_feed, 8, (Option.some FieldType.int), 6, 1, 396, 394, 395, 66),
  (yX6_in, cX6_in, 3, (Option.some FieldType.boolean), 3, 0, 399, 398, 0, 66),
  (yX6_isByte, cX6_isByte, 1, (Option.some FieldType.boolean), 1, 0, 402, 401, 0, 66),
  (yX6_text, cX6_text, 3, (Option.some FieldType.int), 0, 1, 407, 405, 406, 66),
  (yX6_textAt, cX6_textAt, 3, (Option.some (FieldType.object "UpTheFlue$Law")), 2, 1, 411, 410, 13, 66),
  (yX6_force, cX6_force, 4, (Option.some FieldType.int), 1, 1, 415, 413, 414, 66),
  (yX6_asks, cX6_asks, 6, (Option.some FieldType.int), 4, 1, 419, 417, 418, 66),
  (yX2_says, cX2_says, 6, (Option.some FieldType.int), 3, 1, 424, 422, 423, 68),
  (yX0_isWide, cX0_isWide, 2, (Option.some FieldType.int), 0, 1, 428, 426, 427, 79),
  (yJ9_max_7cf53, cJ9_max_7cf53, 2, (Option.some FieldType.int), 2, 0, 431, 430, 0, 78),
  (yX2_step, cX2_step, 6, (Option.some FieldType.int), 3, 1, 435, 434, 14, 68),
  (yX2_joined, cX2_joined, 3, (Option.some FieldType.int), 3, 0, 438, 437, 0, 68),
  (yJ9_min_7cf53, cJ9_min_7cf53, 2, (Option.some FieldType.int), 2, 0, 441, 440, 0, 78),
  (yX6_bit, cX6_bit, 5, (Option.some FieldType.int), 4, 1, 446, 444, 445, 66),
  (yX1_isFull, cX1_isFull, 1, (Option.some FieldType.boolean), 0, 1, 450, 448, 449, 75),
  (yX0_init, cX0_init, 6, (Option.none : Option FieldType), 5, 2, 455, 454, 0, 79),
  (yX1_add, cX1_add, 2, (Option.some FieldType.int), 1, 1, 515, 513, 514, 75),
  (yX6_mend, cX6_mend, 6, (Option.some FieldType.int), 3, 1, 520, 518, 519, 66),
  (yX6_lay, cX6_lay, 5, (Option.some FieldType.int), 2, 1, 524, 522, 523, 66),
  (yX6_told, cX6_told, 4, (Option.some FieldType.int), 2, 1, 528, 526, 527, 66),
  (yX6_numberOf, cX6_numberOf, 1, (Option.some FieldType.int), 1, 0, 531, 530, 0, 66),
  (yX0_leaks, cX0_leaks, 1, (Option.some FieldType.int), 0, 1, 536, 534, 535, 79),
  (yX6_all, cX6_all, 2, (Option.some FieldType.int), 1, 1, 540, 538, 539, 66),
  (yX6_flue, cX6_flue, 4, (Option.some FieldType.int), 2, 1, 544, 542, 543, 66),
  (yX0_last, cX0_last, 3, (Option.some (FieldType.object "UpTheFlue$Bit")), 0, 1, 548, 546, 547, 79),
  (yX0_bitsUp, cX0_bitsUp, 3, (Option.some FieldType.int), 0, 1, 552, 550, 551, 79),
  (yX1_fireplacesUnder, cX1_fireplacesUnder, 5, (Option.some FieldType.int), 1, 1, 556, 554, 555, 75),
  (yX0_rodsUpTo, cX0_rodsUpTo, 4, (Option.some FieldType.int), 1, 1, 561, 559, 560, 79),
  (yX6_join, cX6_join, 5, (Option.some FieldType.int), 2, 1, 565, 563, 564, 66),
  (yX0_firstUpIn, cX0_firstUpIn, 3, (Option.some (FieldType.object "UpTheFlue$Bit")), 1, 1, 569, 567, 568, 79),
  (yX6_rod, cX6_rod, 5, (Option.some FieldType.int), 3, 1, 573, 571, 572, 66),
  (yX0_reachedBy, cX0_reachedBy, 4, (Option.some (FieldType.object "UpTheFlue$Bit")), 1, 1, 578, 576, 577, 79),
  (yX2_heavyBy, cX2_heavyBy, 4, (Option.some FieldType.int), 2, 1, 582, 580, 581, 68),
  (yX6_push, cX6_push, 6, (Option.some FieldType.int), 3, 1, 588, 586, 587, 66),
  (yX1_staysIn, cX1_staysIn, 4, (Option.some (FieldType.object "UpTheFlue$Bit")), 2, 1, 592, 590, 591, 75),
  (yX6_sweep, cX6_sweep, 4, (Option.some FieldType.int), 2, 1, 598, 596, 597, 66),
  (yX1_brush, cX1_brush, 7, (Option.some FieldType.int), 2, 1, 602, 600, 601, 75),
  (yX0_left, cX0_left, 1, (Option.some FieldType.int), 0, 1, 607, 605, 606, 79),
  (yX6_needs, cX6_needs, 5, (Option.some FieldType.int), 1, 1, 611, 609, 610, 66),
  (yX6_fire, cX6_fire, 6, (Option.some FieldType.int), 3, 1, 616, 614, 615, 66),
  (yX1_light, cX1_light, 5, (Option.none : Option FieldType), 2, 1, 620, 618, 619, 75),
  (yX0_grows, cX0_grows, 2, (Option.some FieldType.int), 1, 1, 624, 622, 623, 79),
  (yX0_isOne, cX0_isOne, 2, (Option.some FieldType.boolean), 1, 1, 628, 626, 627, 79),
  (yX0_sootUp, cX0_sootUp, 3, (Option.some FieldType.int), 0, 1, 633, 631, 632, 79),
  (yX6_smoke, cX6_smoke, 10, (Option.some FieldType.int), 3, 1, 637, 635, 636, 66),
  (yX6_draw, cX6_draw, 4, (Option.some FieldType.int), 2, 1, 641, 639, 640, 66),
  (yX0_drawUp, cX0_drawUp, 3, (Option.some FieldType.int), 0, 1, 646, 644, 645, 79),
  (yX6_smokes, cX6_smokes, 5, (Option.some FieldType.int), 1, 1, 651, 649, 650, 66),
  (yX6_fine, cX6_fine, 8, (Option.some FieldType.long), 3, 1, 655, 653, 654, 66),
  (yX1_setSootAside, cX1_setSootAside, 3, (Option.none : Option FieldType), 0, 1, 661, 659, 660, 75),
  (yX1_fineBehindFire, cX1_fineBehindFire, 8, (Option.some FieldType.long), 3, 1, 665, 663, 664, 75),
  (yX1_putSootBack, cX1_putSootBack, 3, (Option.none : Option FieldType), 0, 1, 671, 669, 670, 75),
  (yX6_when, cX6_when, 11, (Option.some FieldType.int), 3, 1, 675, 673, 674, 66),
  (yX6_often, cX6_often, 8, (Option.some FieldType.int), 4, 1, 680, 678, 679, 66),
  (yX1_staysBelow, cX1_staysBelow, 8, (Option.some FieldType.boolean), 5, 1, 684, 682, 683, 75),
  (yX0_mostSootUp, cX0_mostSootUp, 3, (Option.some FieldType.int), 0, 1, 688, 686, 687, 79),
  (yX6_round, cX6_round, 5, (Option.some FieldType.int), 3, 1, 693, 691, 692, 66),
  (yX1_bestRound, cX1_bestRound, 8, (Option.some FieldType.int), 2, 1, 697, 695, 696, 75),
  (yX1_gatherPlaces, cX1_gatherPlaces, 4, (Option.some FieldType.int), 0, 1, 701, 700, 15, 75),
  (yX1_layOrder, cX1_layOrder, 7, (Option.some FieldType.boolean), 2, 1, 706, 705, 16, 75),
  (yX1_mostSootInRound, cX1_mostSootInRound, 7, (Option.some FieldType.int), 3, 1, 710, 709, 17, 75),
  (yX1_mostSoot, cX1_mostSoot, 4, (Option.some FieldType.int), 0, 1, 715, 714, 18, 75),
  (yX1_orderAsDigits, cX1_orderAsDigits, 4, (Option.some FieldType.int), 1, 1, 721, 720, 19, 75),
  (yX6_ball, cX6_ball, 9, (Option.some FieldType.int), 3, 1, 726, 724, 725, 66),
  (yX6_judge, cX6_judge, 5, (Option.some FieldType.int), 2, 1, 731, 729, 730, 66),
  (yX6_sheetAt, cX6_sheetAt, 2, (Option.some (FieldType.object "UpTheFlue$Sheet")), 1, 1, 735, 734, 20, 66),
  (yX4_isMissing, cX4_isMissing, 1, (Option.some FieldType.boolean), 0, 1, 739, 737, 738, 69),
  (yX4_otherwise, cX4_otherwise, 4, (Option.some FieldType.int), 2, 1, 743, 741, 742, 69),
  (yX4_get, cX4_get, 2, (Option.some FieldType.int), 1, 1, 747, 745, 746, 69),
  (yX4_has, cX4_has, 2, (Option.some FieldType.boolean), 1, 1, 751, 749, 750, 69),
  (yX6_whose, cX6_whose, 6, (Option.some FieldType.int), 1, 1, 756, 754, 755, 66),
  (yX6_laws, cX6_laws, 8, (Option.some FieldType.int), 2, 1, 760, 758, 759, 66),
  (yX6_blocked, cX6_blocked, 10, (Option.some FieldType.int), 3, 1, 764, 762, 763, 66),
  (yX4_tellsBlocked, cX4_tellsBlocked, 8, (Option.some FieldType.boolean), 4, 1, 768, 766, 767, 69),
  (yX6_film, cX6_film, 7, (Option.some FieldType.int), 3, 1, 773, 771, 772, 66),
  (yX4_become, cX4_become, 4, (Option.none : Option FieldType), 2, 1, 777, 775, 776, 69),
  (yX4_put, cX4_put, 3, (Option.none : Option FieldType), 2, 1, 783, 781, 782, 69),
  (yX6_drawn, cX6_drawn, 6, (Option.some FieldType.int), 4, 1, 787, 785, 786, 66),
  (yX1_weighBurning, cX1_weighBurning, 7, (Option.none : Option FieldType), 3, 1, 792, 790, 791, 75),
  (yX1_firstBurning, cX1_firstBurning, 10, (Option.some FieldType.int), 3, 1, 796, 794, 795, 75),
  (yX6_odds, cX6_odds, 10, (Option.some FieldType.long), 5, 1, 802, 800, 801, 66),
  (yX6_image, cX6_image, 1, (Option.some FieldType.int), 0, 1, 806, 804, 805, 66),
  (yX1_keepImage, cX1_keepImage, 3, (Option.none : Option FieldType), 0, 1, 810, 808, 809, 75),
  (yX6_back, cX6_back, 2, (Option.some FieldType.int), 0, 1, 814, 812, 813, 66),
  (yX1_goBack, cX1_goBack, 3, (Option.none : Option FieldType), 0, 1, 818, 816, 817, 75),
  (yX6_sheet, cX6_sheet, 5, (Option.some FieldType.int), 3, 1, 822, 820, 821, 66),
  (yX6_cell, cX6_cell, 5, (Option.some FieldType.int), 3, 1, 826, 824, 825, 66),
  (yX6_copy, cX6_copy, 8, (Option.some FieldType.int), 5, 1, 831, 829, 830, 66),
  (yX4_hasRun, cX4_hasRun, 3, (Option.some FieldType.boolean), 2, 1, 835, 833, 834, 69),
  (yX6_bitsBy, cX6_bitsBy, 10, (Option.some FieldType.int), 4, 1, 842, 840, 841, 66),
  (yX6_taken, cX6_taken, 5, (Option.some FieldType.int), 2, 1, 848, 846, 847, 66),
  (yX7_init, cX7_init, 2, (Option.none : Option FieldType), 0, 2, 854, 853, 0, 76),
  (yX7_text, cX7_text, 3, (Option.some FieldType.int), 0, 1, 859, 857, 858, 76),
  (yX7_next, cX7_next, 3, (Option.none : Option FieldType), 0, 1, 863, 862, 21, 76),
  (yX7_in, cX7_in, 3, (Option.some FieldType.boolean), 3, 0, 866, 865, 0, 76),
  (yX7_wordFrom, cX7_wordFrom, 6, (Option.some FieldType.int), 2, 1, 870, 869, 22, 76),
  (yX7_eRead, cX7_eRead, 4, (Option.some FieldType.boolean), 0, 1, 874, 873, 23, 76),
  (yX7_puts, cX7_puts, 2, (Option.none : Option FieldType), 1, 1, 879, 878, 24, 76),
  (yX7_unwinds, cX7_unwinds, 3, (Option.none : Option FieldType), 1, 1, 883, 882, 25, 76),
  (yX7_rank, cX7_rank, 1, (Option.some FieldType.int), 1, 0, 886, 885, 0, 76),
  (yX7_opensOne, cX7_opensOne, 2, (Option.some FieldType.boolean), 1, 1, 890, 889, 26, 76),
  (yX7_holds, cX7_holds, 2, (Option.none : Option FieldType), 1, 1, 894, 893, 27, 76),
  (yX7_signOf, cX7_signOf, 1, (Option.some FieldType.int), 0, 1, 898, 897, 28, 76),
  (yX7_between, cX7_between, 2, (Option.some FieldType.boolean), 1, 1, 902, 901, 29, 76),
  (yX7_count, cX7_count, 2, (Option.some FieldType.int), 1, 1, 1024, 1022, 1023, 76),
  (yX7_setOf, cX7_setOf, 5, (Option.some FieldType.int), 1, 1, 1028, 1027, 30, 76),
  (yX7_isFireplace, cX7_isFireplace, 4, (Option.some FieldType.boolean), 1, 1, 1032, 1031, 31, 76),
  (yX7_isBit, cX7_isBit, 2, (Option.some FieldType.boolean), 1, 1, 1036, 1035, 32, 76),
  (yX7_isPot, cX7_isPot, 2, (Option.some FieldType.boolean), 1, 1, 1040, 1039, 33, 76),
  (yX7_ones, cX7_ones, 3, (Option.some FieldType.int), 1, 0, 1043, 1042, 0, 76),
  (yX7_feed, cX7_feed, 8, (Option.some FieldType.int), 6, 1, 1047, 1045, 1046, 76),
  (yX7_isByte, cX7_isByte, 1, (Option.some FieldType.boolean), 1, 0, 1050, 1049, 0, 76),
  (yX7_force, cX7_force, 3, (Option.some FieldType.int), 1, 1, 1055, 1053, 1054, 76),
  (yX7_asks, cX7_asks, 5, (Option.some FieldType.int), 4, 1, 1059, 1057, 1058, 76),
  (yX7_asksOf, cX7_asksOf, 5, (Option.some FieldType.int), 4, 1, 1063, 1062, 34, 76),
  (yX7_is, cX7_is, 4, (Option.some FieldType.int), 1, 1, 1067, 1066, 35, 76),
  (yX7_within, cX7_within, 3, (Option.some FieldType.int), 3, 0, 1070, 1069, 0, 76),
  (yX7_worth, cX7_worth, 5, (Option.some FieldType.int), 1, 1, 1074, 1073, 36, 76),
  (yX7_two, cX7_two, 3, (Option.some FieldType.int), 3, 0, 1077, 1076, 0, 76),
  (yX7_bit, cX7_bit, 6, (Option.some FieldType.int), 4, 1, 1081, 1079, 1080, 76),
  (yX7_mend, cX7_mend, 5, (Option.some FieldType.int), 3, 1, 1085, 1083, 1084, 76),
  (yX7_isSo, cX7_isSo, 2, (Option.some FieldType.boolean), 2, 0, 1088, 1087, 0, 76),
  (yX7_lay, cX7_lay, 4, (Option.some FieldType.int), 2, 1, 1092, 1090, 1091, 76),
  (yX7_told, cX7_told, 3, (Option.some FieldType.int), 2, 1, 1096, 1094, 1095, 76),
  (yX7_leaks, cX7_leaks, 2, (Option.some FieldType.int), 1, 1, 1100, 1099, 37, 76),
  (yX7_all, cX7_all, 2, (Option.some FieldType.int), 1, 1, 1104, 1102, 1103, 76),
  (yX7_flue, cX7_flue, 3, (Option.some FieldType.int), 2, 1, 1108, 1106, 1107, 76),
  (yX7_lastOf, cX7_lastOf, 3, (Option.some FieldType.int), 1, 1, 1112, 1111, 38, 76),
  (yX7_flueOf, cX7_flueOf, 4, (Option.some FieldType.int), 1, 1, 1116, 1115, 39, 76),
  (yX7_fireplacesOf, cX7_fireplacesOf, 4, (Option.some FieldType.int), 1, 1, 1120, 1119, 40, 76),
  (yX7_rodsOf, cX7_rodsOf, 4, (Option.some FieldType.int), 1, 1, 1124, 1123, 41, 76),
  (yX7_join, cX7_join, 5, (Option.some FieldType.int), 2, 1, 1128, 1126, 1127, 76),
  (yX7_rod, cX7_rod, 4, (Option.some FieldType.int), 3, 1, 1132, 1130, 1131, 76),
  (yX7_reached, cX7_reached, 5, (Option.some FieldType.int), 2, 1, 1136, 1135, 42, 76),
  (yX7_heavyAt, cX7_heavyAt, 4, (Option.some FieldType.int), 2, 1, 1140, 1139, 43, 76),
  (yX7_heavy, cX7_heavy, 2, (Option.some FieldType.int), 1, 1, 1144, 1143, 44, 76),
  (yX7_push, cX7_push, 5, (Option.some FieldType.int), 3, 1, 1148, 1146, 1147, 76),
  (yX7_staysIn, cX7_staysIn, 4, (Option.some FieldType.int), 2, 1, 1152, 1151, 45, 76),
  (yX7_sweep, cX7_sweep, 3, (Option.some FieldType.int), 2, 1, 1156, 1154, 1155, 76),
  (yX7_sweeps, cX7_sweeps, 7, (Option.some FieldType.int), 2, 1, 1160, 1159, 46, 76),
  (yX7_remains, cX7_remains, 2, (Option.some FieldType.int), 1, 1, 1164, 1163, 47, 76),
  (yX7_needs, cX7_needs, 4, (Option.some FieldType.int), 1, 1, 1168, 1166, 1167, 76),
  (yX7_fire, cX7_fire, 5, (Option.some FieldType.int), 3, 1, 1172, 1170, 1171, 76),
  (yX7_isFire, cX7_isFire, 1, (Option.some FieldType.boolean), 1, 0, 1175, 1174, 0, 76),
  (yX7_burnsOnce, cX7_burnsOnce, 4, (Option.none : Option FieldType), 2, 1, 1179, 1178, 48, 76),
  (yX7_grows, cX7_grows, 5, (Option.some FieldType.int), 2, 1, 1183, 1182, 49, 76),
  (yX7_sootOf, cX7_sootOf, 4, (Option.some FieldType.int), 1, 1, 1187, 1186, 50, 76),
  (yX7_smoke, cX7_smoke, 8, (Option.some FieldType.int), 3, 1, 1191, 1189, 1190, 76),
  (yX7_draw, cX7_draw, 3, (Option.some FieldType.int), 2, 1, 1195, 1193, 1194, 76),
  (yX7_drawOf, cX7_drawOf, 5, (Option.some FieldType.int), 2, 1, 1199, 1198, 51, 76),
  (yX7_smokes, cX7_smokes, 4, (Option.some FieldType.int), 1, 1, 1204, 1202, 1203, 76),
  (yX7_fine, cX7_fine, 7, (Option.some FieldType.long), 3, 1, 1208, 1206, 1207, 76),
  (yX7_keeps, cX7_keeps, 2, (Option.none : Option FieldType), 0, 1, 1214, 1213, 52, 76),
  (yX7_fineBehind, cX7_fineBehind, 8, (Option.some FieldType.long), 3, 1, 1218, 1217, 53, 76),
  (yX7_laysBack, cX7_laysBack, 2, (Option.none : Option FieldType), 0, 1, 1223, 1222, 54, 76),
  (yX7_when, cX7_when, 8, (Option.some FieldType.int), 3, 1, 1227, 1225, 1226, 76),
  (yX7_often, cX7_often, 6, (Option.some FieldType.int), 4, 1, 1232, 1230, 1231, 76),
  (yX7_keepsBelow, cX7_keepsBelow, 9, (Option.some FieldType.boolean), 5, 1, 1236, 1235, 55, 76),
  (yX7_round, cX7_round, 5, (Option.some FieldType.int), 3, 1, 1240, 1238, 1239, 76),
  (yX7_orders, cX7_orders, 7, (Option.none : Option FieldType), 5, 1, 1244, 1243, 56, 76),
  (yX7_goesRound, cX7_goesRound, 7, (Option.none : Option FieldType), 3, 1, 1248, 1247, 57, 76),
  (yX7_mostSoot, cX7_mostSoot, 3, (Option.some FieldType.int), 0, 1, 1252, 1251, 58, 76),
  (yX7_ball, cX7_ball, 7, (Option.some FieldType.int), 3, 1, 1256, 1254, 1255, 76),
  (yX7_below, cX7_below, 3, (Option.some FieldType.int), 1, 1, 1260, 1259, 59, 76),
  (yX7_judge, cX7_judge, 4, (Option.some FieldType.int), 2, 1, 1264, 1262, 1263, 76),
  (yX7_toldWrong, cX7_toldWrong, 4, (Option.some FieldType.int), 2, 1, 1268, 1267, 60, 76),
  (yX7_sheetWrong, cX7_sheetWrong, 2, (Option.some FieldType.int), 1, 1, 1272, 1271, 61, 76),
  (yX7_unlike, cX7_unlike, 4, (Option.some FieldType.int), 2, 1, 1276, 1275, 62, 76),
  (yX7_whose, cX7_whose, 5, (Option.some FieldType.int), 1, 1, 1280, 1278, 1279, 76),
  (yX7_laws, cX7_laws, 7, (Option.some FieldType.int), 2, 1, 1284, 1282, 1283, 76),
  (yX7_blocked, cX7_blocked, 9, (Option.some FieldType.int), 3, 1, 1288, 1286, 1287, 76),
  (yX7_fitsBlocked, cX7_fitsBlocked, 8, (Option.some FieldType.boolean), 4, 1, 1292, 1291, 63, 76),
  (yX7_film, cX7_film, 5, (Option.some FieldType.int), 3, 1, 1296, 1294, 1295, 76),
  (yX7_drawn, cX7_drawn, 5, (Option.some FieldType.int), 4, 1, 1300, 1298, 1299, 76),
  (yX7_isYear, cX7_isYear, 3, (Option.some FieldType.boolean), 3, 0, 1303, 1302, 0, 76),
  (yX7_firstBurns, cX7_firstBurns, 11, (Option.some FieldType.int), 4, 1, 1308, 1307, 64, 76),
  (yX7_odds, cX7_odds, 9, (Option.some FieldType.long), 5, 1, 1314, 1312, 1313, 76),
  (yX7_lowest, cX7_lowest, 11, (Option.some FieldType.long), 3, 0, 1318, 1317, 0, 76),
  (yX7_image, cX7_image, 2, (Option.some FieldType.int), 0, 1, 1322, 1320, 1321, 76),
  (yX7_back, cX7_back, 2, (Option.some FieldType.int), 0, 1, 1326, 1324, 1325, 76),
  (yX7_sheet, cX7_sheet, 5, (Option.some FieldType.int), 3, 1, 1330, 1328, 1329, 76),
  (yX7_cell, cX7_cell, 4, (Option.some FieldType.int), 3, 1, 1334, 1332, 1333, 76),
  (yX7_copy, cX7_copy, 10, (Option.some FieldType.int), 5, 1, 1338, 1336, 1337, 76),
  (yX7_bitsBy, cX7_bitsBy, 9, (Option.some FieldType.int), 4, 1, 1342, 1340, 1341, 76),
  (yX7_taken, cX7_taken, 4, (Option.some FieldType.int), 2, 1, 1347, 1345, 1346, 76),
  (yX7_isUnder, cX7_isUnder, 2, (Option.some FieldType.boolean), 2, 0, 1350, 1349, 0, 76)]
abbrev ax_md : MethodName × (ByteArray × (Nat × (Option FieldType × (Nat × (Nat × (Nat × (Nat × (Nat × Nat)))))))) := (⟨"", "", ""⟩, ⟨#[]⟩, 0, none, 0, 9, 0, 0, 0, 0)
def ax_mt (j : Nat) := (ax_mT[j]?).getD ax_md
def ax_y (j : Nat) : MethodName := (ax_mt j).1
def ax_cc (j : Nat) : ByteArray := (ax_mt j).2.1
def ax_nL (j : Nat) : Nat := (ax_mt j).2.2.1
def ax_ret (j : Nat) : Option FieldType := (ax_mt j).2.2.2.1
def ax_na (j : Nat) : Nat := (ax_mt j).2.2.2.2.1
def ax_kd (j : Nat) : Nat := (ax_mt j).2.2.2.2.2.1
/-- own class and pool place, class, slot, kind (int, boolean, reference), final, place of the word -/
def ax_fT : List ((Nat × Nat) × (Nat × (Nat × (Nat × Bool))) × Nat) := [
  ((3, 18), (3, 0, 0, false), 95),
  ((5, 75), (3, 0, 0, false), 96),
  ((3, 9), (3, 1, 2, true), 97),
  ((3, 41), (3, 2, 0, false), 98),
  ((3, 62), (3, 3, 0, false), 99),
  ((3, 47), (3, 4, 0, false), 100),
  ((3, 52), (3, 5, 0, false), 101),
  ((3, 15), (3, 6, 2, true), 102),
  ((3, 65), (3, 7, 0, false), 103),
  ((3, 68), (3, 8, 0, false), 104),
  ((2, 9), (2, 0, 2, true), 134),
  ((2, 15), (2, 1, 2, true), 135),
  ((2, 18), (2, 2, 2, true), 136),
  ((2, 23), (2, 3, 2, true), 137),
  ((2, 26), (2, 4, 0, false), 138),
  ((4, 9), (4, 0, 0, false), 155),
  ((5, 269), (4, 0, 0, false), 156),
  ((4, 19), (4, 1, 0, false), 157),
  ((4, 15), (4, 2, 2, true), 158),
  ((5, 276), (4, 2, 2, true), 159),
  ((1, 27), (1, 0, 2, false), 316),
  ((5, 92), (1, 0, 2, false), 317),
  ((1, 31), (1, 1, 0, false), 318),
  ((5, 59), (1, 1, 0, false), 319),
  ((1, 67), (1, 2, 0, false), 320),
  ((1, 11), (1, 3, 2, true), 321),
  ((1, 17), (1, 4, 2, true), 322),
  ((1, 20), (1, 5, 2, true), 323),
  ((1, 23), (1, 6, 2, true), 324),
  ((5, 55), (5, 0, 2, true), 341),
  ((5, 10), (5, 1, 2, true), 342),
  ((5, 18), (5, 2, 2, true), 343),
  ((5, 24), (5, 3, 2, true), 344),
  ((5, 28), (5, 4, 0, false), 345),
  ((5, 32), (5, 5, 0, false), 346),
  ((5, 35), (5, 6, 0, false), 347),
  ((0, 9), (0, 0, 0, true), 457),
  ((1, 51), (0, 0, 0, true), 458),
  ((5, 226), (0, 0, 0, true), 459),
  ((0, 15), (0, 1, 2, true), 460),
  ((1, 43), (0, 1, 2, true), 461),
  ((5, 126), (0, 1, 2, true), 462),
  ((0, 22), (0, 2, 0, true), 463),
  ((5, 133), (0, 2, 0, true), 464),
  ((0, 25), (0, 3, 0, true), 465),
  ((5, 136), (0, 3, 0, true), 466),
  ((0, 28), (0, 4, 0, true), 467),
  ((2, 47), (0, 4, 0, true), 468),
  ((5, 139), (0, 4, 0, true), 469),
  ((0, 19), (0, 5, 0, false), 470),
  ((5, 117), (0, 5, 0, false), 471),
  ((4, 45), (0, 5, 0, false), 472),
  ((1, 70), (0, 5, 0, false), 473),
  ((0, 31), (0, 6, 0, false), 474),
  ((2, 50), (0, 6, 0, false), 475),
  ((5, 120), (0, 6, 0, false), 476),
  ((4, 50), (0, 6, 0, false), 477),
  ((1, 76), (0, 6, 0, false), 478),
  ((0, 38), (0, 7, 0, false), 479),
  ((2, 40), (0, 7, 0, false), 480),
  ((5, 123), (0, 7, 0, false), 481),
  ((1, 61), (0, 7, 0, false), 482),
  ((1, 73), (0, 8, 0, false), 483),
  ((1, 79), (0, 9, 0, false), 484),
  ((1, 82), (0, 10, 0, false), 485),
  ((1, 64), (0, 11, 0, false), 486),
  ((6, 84), (6, 0, 0, false), 903),
  ((6, 7), (6, 1, 2, true), 904),
  ((6, 13), (6, 2, 2, true), 905),
  ((6, 16), (6, 3, 2, true), 906),
  ((6, 19), (6, 4, 2, true), 907),
  ((6, 22), (6, 5, 2, true), 908),
  ((6, 25), (6, 6, 2, true), 909),
  ((6, 28), (6, 7, 2, true), 910),
  ((6, 31), (6, 8, 2, true), 911),
  ((6, 76), (6, 9, 0, false), 912),
  ((6, 34), (6, 10, 2, true), 913),
  ((6, 37), (6, 11, 2, true), 914),
  ((6, 108), (6, 12, 0, false), 915),
  ((6, 111), (6, 13, 0, false), 916),
  ((6, 318), (6, 14, 1, false), 917),
  ((6, 322), (6, 15, 0, false), 918),
  ((6, 325), (6, 16, 0, false), 919),
  ((6, 40), (6, 17, 2, true), 920),
  ((6, 43), (6, 18, 2, true), 921),
  ((6, 46), (6, 19, 2, true), 922),
  ((6, 49), (6, 20, 2, true), 923),
  ((6, 52), (6, 21, 2, true), 924),
  ((6, 117), (6, 22, 0, false), 925),
  ((6, 120), (6, 23, 0, false), 926),
  ((6, 123), (6, 24, 0, false), 927),
  ((6, 126), (6, 25, 0, false), 928),
  ((6, 55), (6, 26, 2, true), 929),
  ((6, 58), (6, 27, 2, true), 930),
  ((6, 136), (6, 28, 0, false), 931),
  ((6, 142), (6, 29, 0, false), 932),
  ((6, 133), (6, 30, 0, false), 933),
  ((6, 61), (6, 31, 2, true), 934),
  ((6, 64), (6, 32, 2, true), 935),
  ((6, 67), (6, 33, 2, true), 936),
  ((6, 70), (6, 34, 2, true), 937),
  ((6, 265), (6, 35, 0, false), 938),
  ((6, 73), (6, 36, 2, true), 939),
  ((6, 274), (6, 37, 0, false), 940),
  ((6, 271), (6, 38, 0, false), 941)]
def ax_fld (o i : Nat) : Option (Nat × (Nat × (Nat × Bool))) := (ax_fT.find? (fun e => e.1.1 == o && e.1.2 == i)).map (fun e => e.2.1)
/-- own class and pool place, method, kind (0 static, 1 virtual, 2 init, 3 init of a nest mate, 4 Object's init, 5 arraycopy), arguments with the receiver, place of the word -/
def ax_cT : List ((Nat × Nat) × (Nat × (Nat × Nat)) × Nat) := [
  ((8, 9), (0, 2, 1), 83),
  ((5, 1), (0, 4, 0), 86),
  ((5, 9), (1, 3, 1), 91),
  ((3, 3), (0, 4, 0), 94),
  ((5, 38), (2, 3, 1), 130),
  ((2, 3), (0, 4, 0), 133),
  ((5, 39), (3, 3, 1), 151),
  ((4, 3), (0, 4, 0), 154),
  ((5, 42), (4, 1, 2), 168),
  ((3, 22), (5, 1, 1), 172),
  ((11, 335), (6, 1, 1), 176),
  ((3, 28), (7, 1, 2), 182),
  ((11, 492), (8, 1, 1), 186),
  ((11, 495), (9, 0, 2), 190),
  ((12, 9), (10, 0, 2), 193),
  ((11, 1059), (11, 0, 3), 198),
  ((11, 498), (12, 0, 2), 201),
  ((13, 67), (13, 0, 2), 204),
  ((13, 48), (14, 0, 1), 207),
  ((13, 414), (10, 0, 2), 210),
  ((13, 71), (15, 0, 2), 211),
  ((3, 32), (16, 1, 2), 220),
  ((5, 46), (17, 1, 2), 224),
  ((3, 36), (18, 1, 1), 228),
  ((3, 44), (19, 1, 1), 232),
  ((3, 103), (20, 1, 1), 236),
  ((3, 106), (21, 1, 2), 240),
  ((3, 109), (22, 0, 1), 244),
  ((3, 112), (23, 1, 1), 247),
  ((3, 124), (24, 1, 1), 251),
  ((3, 115), (25, 0, 1), 256),
  ((3, 118), (26, 1, 1), 259),
  ((3, 121), (27, 0, 1), 263),
  ((3, 55), (28, 1, 2), 266),
  ((3, 71), (29, 1, 3), 270),
  ((3, 75), (30, 1, 1), 274),
  ((3, 89), (31, 1, 1), 278),
  ((3, 92), (32, 0, 1), 282),
  ((3, 96), (33, 1, 2), 285),
  ((3, 79), (34, 1, 3), 289),
  ((3, 83), (35, 1, 2), 293),
  ((3, 86), (36, 1, 2), 297),
  ((3, 99), (37, 0, 1), 301),
  ((3, 59), (38, 1, 2), 304),
  ((5, 52), (39, 2, 2), 310),
  ((1, 3), (0, 4, 0), 313),
  ((8, 13), (40, 1, 2), 363),
  ((5, 62), (41, 1, 1), 367),
  ((1, 54), (42, 1, 2), 371),
  ((1, 35), (43, 1, 2), 375),
  ((1, 39), (44, 1, 2), 379),
  ((5, 66), (45, 0, 1), 383),
  ((5, 72), (46, 1, 1), 389),
  ((8, 18), (47, 1, 7), 393),
  ((5, 76), (48, 0, 3), 397),
  ((5, 80), (49, 0, 1), 400),
  ((5, 84), (16, 1, 2), 403),
  ((8, 23), (50, 1, 1), 404),
  ((5, 88), (51, 1, 3), 408),
  ((8, 28), (52, 1, 2), 412),
  ((8, 32), (53, 1, 5), 416),
  ((5, 96), (43, 1, 2), 420),
  ((5, 100), (54, 1, 4), 421),
  ((2, 43), (55, 1, 1), 425),
  ((0, 41), (56, 0, 2), 429),
  ((2, 53), (57, 1, 4), 432),
  ((2, 66), (58, 0, 3), 436),
  ((2, 57), (59, 0, 2), 439),
  ((2, 63), (56, 0, 2), 442),
  ((8, 37), (60, 1, 5), 443),
  ((5, 104), (61, 1, 1), 447),
  ((5, 110), (62, 2, 6), 453),
  ((0, 3), (0, 4, 0), 456),
  ((5, 113), (63, 1, 2), 512),
  ((1, 47), (61, 1, 1), 516),
  ((8, 41), (64, 1, 4), 517),
  ((8, 46), (65, 1, 3), 521),
  ((8, 51), (66, 1, 3), 525),
  ((5, 130), (67, 0, 1), 529),
  ((5, 142), (55, 1, 1), 532),
  ((5, 145), (68, 1, 1), 533),
  ((8, 55), (69, 1, 2), 537),
  ((8, 59), (70, 1, 3), 541),
  ((5, 148), (71, 1, 1), 545),
  ((5, 152), (72, 1, 1), 549),
  ((5, 155), (73, 1, 2), 553),
  ((1, 57), (72, 1, 1), 557),
  ((5, 158), (74, 1, 2), 558),
  ((8, 63), (75, 1, 3), 562),
  ((5, 161), (76, 1, 2), 566),
  ((8, 67), (77, 1, 4), 570),
  ((5, 164), (42, 1, 2), 574),
  ((5, 167), (78, 1, 2), 575),
  ((5, 170), (79, 1, 3), 579),
  ((2, 30), (78, 1, 2), 583),
  ((2, 36), (54, 1, 4), 584),
  ((8, 71), (80, 1, 4), 585),
  ((5, 174), (81, 1, 3), 589),
  ((1, 101), (55, 1, 1), 593),
  ((1, 85), (54, 1, 4), 594),
  ((8, 75), (82, 1, 3), 595),
  ((5, 178), (83, 1, 3), 599),
  ((1, 104), (81, 1, 3), 603),
  ((1, 108), (84, 1, 1), 604),
  ((8, 79), (85, 1, 2), 608),
  ((5, 182), (56, 0, 2), 612),
  ((8, 83), (86, 1, 4), 613),
  ((5, 188), (87, 1, 3), 617),
  ((1, 91), (88, 1, 2), 621),
  ((0, 34), (89, 1, 2), 625),
  ((1, 95), (59, 0, 2), 629),
  ((5, 192), (90, 1, 1), 630),
  ((8, 87), (91, 1, 4), 634),
  ((8, 91), (92, 1, 3), 638),
  ((5, 196), (93, 1, 1), 643),
  ((0, 47), (55, 1, 1), 647),
  ((8, 95), (94, 1, 2), 648),
  ((8, 99), (95, 1, 4), 652),
  ((5, 203), (96, 1, 1), 658),
  ((5, 206), (97, 1, 4), 662),
  ((1, 111), (87, 1, 3), 666),
  ((5, 210), (98, 1, 1), 668),
  ((8, 104), (99, 1, 4), 672),
  ((8, 108), (100, 1, 5), 677),
  ((5, 215), (101, 1, 6), 681),
  ((1, 117), (102, 1, 1), 685),
  ((1, 120), (83, 1, 3), 689),
  ((8, 112), (103, 1, 4), 690),
  ((5, 219), (104, 1, 3), 694),
  ((1, 134), (105, 1, 1), 698),
  ((1, 138), (106, 1, 3), 703),
  ((1, 142), (107, 1, 4), 707),
  ((1, 124), (96, 1, 1), 711),
  ((1, 153), (108, 1, 1), 712),
  ((1, 156), (56, 0, 2), 716),
  ((1, 127), (98, 1, 1), 717),
  ((1, 146), (109, 1, 2), 718),
  ((1, 149), (67, 6, 1), 722),
  ((8, 116), (110, 1, 4), 723),
  ((5, 222), (44, 1, 2), 727),
  ((8, 120), (111, 1, 3), 728),
  ((5, 229), (112, 1, 2), 732),
  ((5, 233), (113, 1, 1), 736),
  ((5, 236), (114, 1, 3), 740),
  ((4, 35), (115, 1, 2), 744),
  ((4, 31), (116, 1, 2), 748),
  ((4, 39), (79, 1, 3), 752),
  ((8, 124), (117, 1, 2), 753),
  ((8, 128), (118, 1, 3), 757),
  ((8, 132), (119, 1, 4), 761),
  ((5, 240), (120, 1, 5), 765),
  ((4, 53), (114, 1, 3), 769),
  ((8, 136), (121, 1, 4), 770),
  ((5, 244), (122, 1, 3), 774),
  ((4, 22), (59, 0, 2), 778),
  ((4, 28), (56, 0, 2), 779),
  ((5, 248), (123, 1, 3), 780),
  ((8, 140), (124, 1, 5), 784),
  ((5, 252), (125, 1, 4), 789),
  ((5, 256), (126, 1, 4), 793),
  ((8, 144), (127, 1, 6), 799),
  ((8, 149), (128, 1, 1), 803),
  ((5, 260), (129, 1, 1), 807),
  ((8, 153), (130, 1, 1), 811),
  ((5, 263), (131, 1, 1), 815),
  ((8, 157), (132, 1, 4), 819),
  ((8, 161), (133, 1, 4), 823),
  ((5, 266), (116, 1, 2), 827),
  ((8, 165), (134, 1, 6), 828),
  ((5, 272), (135, 1, 3), 832),
  ((5, 280), (0, 5, 5), 836),
  ((8, 170), (136, 1, 5), 839),
  ((5, 286), (115, 1, 2), 843),
  ((5, 289), (60, 1, 5), 844),
  ((8, 174), (137, 1, 3), 845),
  ((5, 293), (89, 1, 2), 849),
  ((8, 12), (138, 2, 1), 852),
  ((6, 1), (0, 4, 0), 855),
  ((6, 80), (139, 1, 1), 856),
  ((6, 155), (140, 1, 1), 860),
  ((6, 87), (141, 0, 3), 864),
  ((6, 129), (142, 1, 3), 867),
  ((6, 168), (143, 1, 1), 871),
  ((6, 145), (144, 1, 2), 876),
  ((6, 152), (145, 1, 2), 880),
  ((6, 139), (146, 0, 1), 884),
  ((6, 159), (147, 1, 2), 887),
  ((6, 149), (148, 1, 2), 891),
  ((6, 162), (149, 1, 1), 895),
  ((6, 165), (150, 1, 2), 899),
  ((8, 17), (151, 1, 2), 1021),
  ((6, 101), (152, 1, 2), 1025),
  ((6, 95), (153, 1, 2), 1029),
  ((6, 91), (154, 1, 2), 1033),
  ((6, 98), (155, 1, 2), 1037),
  ((6, 105), (156, 0, 1), 1041),
  ((8, 22), (157, 1, 7), 1044),
  ((6, 114), (158, 0, 1), 1048),
  ((8, 27), (139, 1, 1), 1051),
  ((8, 31), (159, 1, 2), 1052),
  ((8, 36), (160, 1, 5), 1056),
  ((6, 185), (161, 1, 5), 1060),
  ((6, 179), (162, 1, 2), 1064),
  ((6, 176), (163, 0, 3), 1068),
  ((6, 182), (164, 1, 2), 1071),
  ((6, 172), (165, 0, 3), 1075),
  ((8, 40), (166, 1, 5), 1078),
  ((8, 45), (167, 1, 4), 1082),
  ((6, 189), (168, 0, 2), 1086),
  ((8, 50), (169, 1, 3), 1089),
  ((8, 54), (170, 1, 3), 1093),
  ((6, 193), (171, 1, 2), 1097),
  ((8, 58), (172, 1, 2), 1101),
  ((8, 62), (173, 1, 3), 1105),
  ((6, 199), (174, 1, 2), 1109),
  ((6, 196), (175, 1, 2), 1113),
  ((6, 202), (176, 1, 2), 1117),
  ((6, 205), (177, 1, 2), 1121),
  ((8, 66), (178, 1, 3), 1125),
  ((8, 70), (179, 1, 4), 1129),
  ((6, 208), (180, 1, 3), 1133),
  ((6, 214), (181, 1, 3), 1137),
  ((6, 211), (182, 1, 2), 1141),
  ((8, 74), (183, 1, 4), 1145),
  ((6, 217), (184, 1, 3), 1149),
  ((8, 78), (185, 1, 3), 1153),
  ((6, 223), (186, 1, 3), 1157),
  ((6, 220), (187, 1, 2), 1161),
  ((8, 82), (188, 1, 2), 1165),
  ((8, 86), (189, 1, 4), 1169),
  ((6, 229), (190, 0, 1), 1173),
  ((6, 232), (191, 1, 3), 1176),
  ((6, 226), (192, 1, 3), 1180),
  ((6, 236), (193, 1, 2), 1184),
  ((8, 90), (194, 1, 4), 1188),
  ((8, 94), (195, 1, 3), 1192),
  ((6, 239), (196, 1, 3), 1196),
  ((8, 98), (197, 1, 2), 1201),
  ((8, 103), (198, 1, 4), 1205),
  ((6, 249), (199, 1, 1), 1211),
  ((6, 252), (200, 1, 4), 1215),
  ((6, 256), (201, 1, 1), 1220),
  ((8, 107), (202, 1, 4), 1224),
  ((8, 111), (203, 1, 5), 1229),
  ((6, 261), (204, 1, 6), 1233),
  ((8, 115), (205, 1, 4), 1237),
  ((6, 281), (206, 1, 6), 1241),
  ((6, 277), (207, 1, 4), 1245),
  ((6, 268), (208, 1, 1), 1249),
  ((8, 119), (209, 1, 4), 1253),
  ((6, 285), (210, 1, 2), 1257),
  ((8, 123), (211, 1, 3), 1261),
  ((6, 291), (212, 1, 3), 1265),
  ((6, 288), (213, 1, 2), 1269),
  ((6, 294), (214, 1, 3), 1273),
  ((8, 127), (215, 1, 2), 1277),
  ((8, 131), (216, 1, 3), 1281),
  ((8, 135), (217, 1, 4), 1285),
  ((6, 297), (218, 1, 5), 1289),
  ((8, 139), (219, 1, 4), 1293),
  ((8, 143), (220, 1, 5), 1297),
  ((6, 306), (221, 0, 3), 1301),
  ((6, 309), (222, 1, 5), 1305),
  ((8, 148), (223, 1, 6), 1311),
  ((6, 314), (224, 0, 3), 1316),
  ((8, 152), (225, 1, 1), 1319),
  ((8, 156), (226, 1, 1), 1323),
  ((8, 160), (227, 1, 4), 1327),
  ((8, 164), (228, 1, 4), 1331),
  ((8, 169), (229, 1, 6), 1335),
  ((8, 173), (230, 1, 5), 1339),
  ((6, 328), (166, 1, 5), 1343),
  ((8, 177), (231, 1, 3), 1344),
  ((6, 331), (232, 0, 2), 1348)]
def ax_call (o i : Nat) : Option (Nat × (Nat × Nat)) := (ax_cT.find? (fun e => e.1.1 == o && e.1.2 == i)).map (fun e => e.2.1)
def ax_nest : List (String × (Nat × (MethodName × String))) := [("UpTheFlue", 9, yX3_init, "UpTheFlue"), ("UpTheFlue", 38, yX2_init, "UpTheFlue"), ("UpTheFlue", 39, yX4_init, "UpTheFlue"), ("UpTheFlue$House", 149, yX6_numberOf, "UpTheFlue")]
/-- own class and pool place, class; places of the words: link, instantiable, initialised -/
def ax_kT : List ((Nat × Nat) × Nat × (Nat × (Nat × Nat))) := [
  ((8, 7), 5, (81, 82, 66)),
  ((5, 7), 3, (89, 90, 67)),
  ((5, 16), 2, (125, 129, 68)),
  ((5, 22), 4, (127, 150, 69)),
  ((5, 50), 1, (308, 309, 75)),
  ((1, 9), 0, (314, 452, 79)),
  ((5, 108), 0, (451, 452, 79)),
  ((8, 10), 6, (850, 851, 76))]
def ax_cls (o i : Nat) : Option Nat := (ax_kT.find? (fun e => e.1.1 == o && e.1.2 == i)).map (fun e => e.2.1)
def ax_iT : List ((Nat × Nat) × Int32 × Nat) := [
  ((10, 265), (1431655765 : Int32), 386),
  ((10, 266), (858993459 : Int32), 387),
  ((10, 267), (252645135 : Int32), 388),
  ((5, 195), (-100000 : Int32), 642),
  ((1, 137), (1000000 : Int32), 702),
  ((5, 251), (99999 : Int32), 788),
  ((6, 158), (100000 : Int32), 875),
  ((6, 242), (-100000 : Int32), 1200),
  ((6, 305), (99999 : Int32), 1304)]
def ax_ldc (o i : Nat) : Option Int32 := (ax_iT.find? (fun e => e.1.1 == o && e.1.2 == i)).map (fun e => e.2.1)
def ax_lT : List ((Nat × Nat) × Int64 × Nat) := [
  ((5, 199), (-4611686018427387904 : Int64), 656),
  ((5, 201), (1000000000 : Int64), 657),
  ((1, 115), (100 : Int64), 667),
  ((5, 213), (10000000 : Int64), 676),
  ((1, 130), (48271 : Int64), 797),
  ((1, 132), (2147483647 : Int64), 798),
  ((6, 245), (-4611686018427387904 : Int64), 1209),
  ((6, 247), (1000000000 : Int64), 1210),
  ((6, 243), (100 : Int64), 1219),
  ((6, 259), (10000000 : Int64), 1228),
  ((6, 301), (48271 : Int64), 1309),
  ((6, 303), (2147483647 : Int64), 1310),
  ((6, 312), (20 : Int64), 1315)]
def ax_ldc2 (o i : Nat) : Option Int64 := (ax_lT.find? (fun e => e.1.1 == o && e.1.2 == i)).map (fun e => e.2.1)
set_option maxRecDepth 100000 in
theorem ax_mT_ok : ax_mT.all (fun r => decide (lw_tbl[r.2.2.2.2.2.2.1]? = some (Cond.code r.1 r.2.1 r.2.2.1 r.2.2.2.1)) && plainName r.1.cls && decide (r.1.cls ≠ "java/lang/invoke/MethodHandle" ∧ r.1.cls ≠ "java/lang/invoke/VarHandle" ∧ (parseMethodDescriptor r.1.desc).map (fun d => d.parameters.length) = some r.2.2.2.2.1) && decide (lw_tbl[r.2.2.2.2.2.2.2.2.2]? = some (Cond.initialized r.1.cls))) = true := by decide +kernel
set_option maxRecDepth 100000 in
theorem ax_mT_ok2 : ax_mT.all (fun r => (r.2.2.2.2.2.1 == 0 && decide (lw_tbl[r.2.2.2.2.2.2.2.1]? = some (Cond.static r.1))) || ((r.2.2.2.2.2.1 == 1 && decide (lw_tbl[r.2.2.2.2.2.2.2.2.1]? = some (Cond.selects r.1.cls r.1 r.1)) || r.2.2.2.2.2.1 == 2 && decide (r.1.name = "<init>" ∧ r.2.2.2.1 = none)) && decide (lw_tbl[r.2.2.2.2.2.2.2.1]? = some (Cond.instanceMethod r.1)))) = true := by decide +kernel
set_option maxRecDepth 100000 in
theorem ax_cT_ok : ax_cT.all (fun e => (decide (e.2.1.2.1 < 3) && decide (lw_tbl[e.2.2]? = some (Cond.methodLink (ax_nm e.1.1) e.1.2 (ax_y e.2.1.1))) && decide (ax_kd e.2.1.1 = e.2.1.2.1) && decide (e.2.1.2.2 = ax_na e.2.1.1 + (if e.2.1.2.1 = 0 then 0 else 1))) || (decide (e.2.1.2.1 = 3) && ax_nest.any (fun q => decide (q.1 = ax_nm e.1.1 ∧ q.2.1 = e.1.2 ∧ q.2.2.1 = ax_y e.2.1.1)) && decide (ax_kd e.2.1.1 = 2) && decide (e.2.1.2.2 = ax_na e.2.1.1 + 1)) || (decide (e.2.1.2.1 = 6) && ax_nest.any (fun q => decide (q.1 = ax_nm e.1.1 ∧ q.2.1 = e.1.2 ∧ q.2.2.1 = ax_y e.2.1.1)) && decide (ax_kd e.2.1.1 = 0) && decide (e.2.1.2.2 = ax_na e.2.1.1)) || (decide (e.2.1.2.1 = 4) && decide (lw_tbl[e.2.2]? = some (Cond.methodLink (ax_nm e.1.1) e.1.2 Lib.objectInit))) || (decide (e.2.1.2.1 = 5) && decide (lw_tbl[e.2.2]? = some (Cond.methodLink (ax_nm e.1.1) e.1.2 arraycopyName)))) = true := by decide +kernel
set_option maxRecDepth 100000 in
theorem ax_kT_ok : ax_kT.all (fun e => decide (lw_tbl[e.2.2.1]? = some (Cond.classLink (ax_nm e.1.1) e.1.2 (ax_nm e.2.1)))) = true := by decide +kernel
set_option maxRecDepth 100000 in
theorem ax_iT_ok : ax_iT.all (fun e => decide (e.1.1 = 99) || decide (lw_tbl[e.2.2]? = some (Cond.constant (ax_nm e.1.1) e.1.2 e.2.1))) = true := by decide +kernel
set_option maxRecDepth 100000 in
theorem ax_lT_ok : ax_lT.all (fun e => decide (lw_tbl[e.2.2]? = some (Cond.constantLong (ax_nm e.1.1) e.1.2 e.2.1))) = true := by decide +kernel
set_option maxRecDepth 100000 in
theorem ax_lay0 : u_ws (ax_nm 0) TX0 12 = ([487, 489, 491, 493, 495, 497, 499, 501, 503, 505, 507, 509] : List Nat).filterMap (fun i => lw_tbl[i]?) := by decide +kernel
set_option maxRecDepth 100000 in
theorem ax_lay1 : u_ws (ax_nm 1) TX1 7 = ([325, 327, 329, 331, 333, 335, 337] : List Nat).filterMap (fun i => lw_tbl[i]?) := by decide +kernel
set_option maxRecDepth 100000 in
theorem ax_lay2 : u_ws (ax_nm 2) TX2 5 = ([139, 141, 143, 145, 147] : List Nat).filterMap (fun i => lw_tbl[i]?) := by decide +kernel
set_option maxRecDepth 100000 in
theorem ax_lay3 : u_ws (ax_nm 3) TX3 9 = ([105, 107, 109, 111, 113, 115, 117, 119, 121] : List Nat).filterMap (fun i => lw_tbl[i]?) := by decide +kernel
set_option maxRecDepth 100000 in
theorem ax_lay4 : u_ws (ax_nm 4) TX4 3 = ([160, 162, 164] : List Nat).filterMap (fun i => lw_tbl[i]?) := by decide +kernel
set_option maxRecDepth 100000 in
theorem ax_lay5 : u_ws (ax_nm 5) TX6 7 = ([348, 350, 352, 354, 356, 358, 360] : List Nat).filterMap (fun i => lw_tbl[i]?) := by decide +kernel
set_option maxRecDepth 100000 in
theorem ax_lay6 : u_ws (ax_nm 6) TX7 39 = ([942, 944, 946, 948, 950, 952, 954, 956, 958, 960, 962, 964, 966, 968, 970, 972, 974, 976, 978, 980, 982, 984, 986, 988, 990, 992, 994, 996, 998, 1000, 1002, 1004, 1006, 1008, 1010, 1012, 1014, 1016, 1018] : List Nat).filterMap (fun i => lw_tbl[i]?) := by decide +kernel
abbrev ax_vc : List vw_C := [(ax_nm 0, TX0, 12), (ax_nm 1, TX1, 7), (ax_nm 2, TX2, 5), (ax_nm 3, TX3, 9), (ax_nm 4, TX4, 3), (ax_nm 5, TX6, 7), (ax_nm 6, TX7, 39)]
