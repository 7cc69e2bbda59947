/-! NUMBERS AND NAMES for the step equations (printed by wip/whole/steps.py) -/
def zI (z : Int) : Int32 := Int32.ofInt z
def zL (z : Int) : Int64 := Int64.ofInt z
theorem zb_m20 : (Int8.ofInt (-20)).toInt32 = zI (-20) := by decide +kernel
theorem zb_m10 : (Int8.ofInt (-10)).toInt32 = zI (-10) := by decide +kernel
theorem zb_m5 : (Int8.ofInt (-5)).toInt32 = zI (-5) := by decide +kernel
theorem zb_m4 : (Int8.ofInt (-4)).toInt32 = zI (-4) := by decide +kernel
theorem zb_m3 : (Int8.ofInt (-3)).toInt32 = zI (-3) := by decide +kernel
theorem zb_m2 : (Int8.ofInt (-2)).toInt32 = zI (-2) := by decide +kernel
theorem zb_6 : (Int8.ofInt 6).toInt32 = zI 6 := by decide +kernel
theorem zb_7 : (Int8.ofInt 7).toInt32 = zI 7 := by decide +kernel
theorem zb_8 : (Int8.ofInt 8).toInt32 = zI 8 := by decide +kernel
theorem zb_9 : (Int8.ofInt 9).toInt32 = zI 9 := by decide +kernel
theorem zb_10 : (Int8.ofInt 10).toInt32 = zI 10 := by decide +kernel
theorem zb_11 : (Int8.ofInt 11).toInt32 = zI 11 := by decide +kernel
theorem zb_12 : (Int8.ofInt 12).toInt32 = zI 12 := by decide +kernel
theorem zb_16 : (Int8.ofInt 16).toInt32 = zI 16 := by decide +kernel
theorem zb_20 : (Int8.ofInt 20).toInt32 = zI 20 := by decide +kernel
theorem zb_21 : (Int8.ofInt 21).toInt32 = zI 21 := by decide +kernel
theorem zb_25 : (Int8.ofInt 25).toInt32 = zI 25 := by decide +kernel
theorem zb_26 : (Int8.ofInt 26).toInt32 = zI 26 := by decide +kernel
theorem zb_31 : (Int8.ofInt 31).toInt32 = zI 31 := by decide +kernel
theorem zb_32 : (Int8.ofInt 32).toInt32 = zI 32 := by decide +kernel
theorem zb_36 : (Int8.ofInt 36).toInt32 = zI 36 := by decide +kernel
theorem zb_40 : (Int8.ofInt 40).toInt32 = zI 40 := by decide +kernel
theorem zb_41 : (Int8.ofInt 41).toInt32 = zI 41 := by decide +kernel
theorem zb_46 : (Int8.ofInt 46).toInt32 = zI 46 := by decide +kernel
theorem zb_47 : (Int8.ofInt 47).toInt32 = zI 47 := by decide +kernel
theorem zb_48 : (Int8.ofInt 48).toInt32 = zI 48 := by decide +kernel
theorem zb_50 : (Int8.ofInt 50).toInt32 = zI 50 := by decide +kernel
theorem zb_57 : (Int8.ofInt 57).toInt32 = zI 57 := by decide +kernel
theorem zb_59 : (Int8.ofInt 59).toInt32 = zI 59 := by decide +kernel
theorem zb_60 : (Int8.ofInt 60).toInt32 = zI 60 := by decide +kernel
theorem zb_63 : (Int8.ofInt 63).toInt32 = zI 63 := by decide +kernel
theorem zb_97 : (Int8.ofInt 97).toInt32 = zI 97 := by decide +kernel
theorem zb_100 : (Int8.ofInt 100).toInt32 = zI 100 := by decide +kernel
theorem zb_122 : (Int8.ofInt 122).toInt32 = zI 122 := by decide +kernel
theorem zb_125 : (Int8.ofInt 125).toInt32 = zI 125 := by decide +kernel
theorem zl_2 : (2 : Int64) = zL 2 := by decide +kernel
theorem zl_5 : (5 : Int64) = zL 5 := by decide +kernel
theorem zl_6 : (6 : Int64) = zL 6 := by decide +kernel
theorem zl_8 : (8 : Int64) = zL 8 := by decide +kernel
theorem zl_9 : (9 : Int64) = zL 9 := by decide +kernel
theorem zl_12 : (12 : Int64) = zL 12 := by decide +kernel
theorem zl_20 : (20 : Int64) = zL 20 := by decide +kernel
theorem zl_31 : (31 : Int64) = zL 31 := by decide +kernel
theorem zl_32 : (32 : Int64) = zL 32 := by decide +kernel
theorem zl_48 : (48 : Int64) = zL 48 := by decide +kernel
theorem zl_57 : (57 : Int64) = zL 57 := by decide +kernel
theorem zl_96 : (96 : Int64) = zL 96 := by decide +kernel
theorem zl_97 : (97 : Int64) = zL 97 := by decide +kernel
theorem zl_122 : (122 : Int64) = zL 122 := by decide +kernel
theorem zl_255 : (255 : Int64) = zL 255 := by decide +kernel
theorem zl_769 : (769 : Int64) = zL 769 := by decide +kernel
theorem zl_15660 : (15660 : Int64) = zL 15660 := by decide +kernel
theorem zl_263564 : (263564 : Int64) = zL 263564 := by decide +kernel
theorem zl_394672 : (394672 : Int64) = zL 394672 := by decide +kernel
theorem zl_20190598 : (20190598 : Int64) = zL 20190598 := by decide +kernel
theorem zl_609259698 : (609259698 : Int64) = zL 609259698 := by decide +kernel
theorem zl_659105223 : (659105223 : Int64) = zL 659105223 := by decide +kernel
theorem zs_m1000 : (Int16.ofInt (-1000)).toInt32 = zI (-1000) := by decide +kernel
theorem zs_132 : (Int16.ofInt 132).toInt32 = zI 132 := by decide +kernel
theorem zs_160 : (Int16.ofInt 160).toInt32 = zI 160 := by decide +kernel
theorem zs_200 : (Int16.ofInt 200).toInt32 = zI 200 := by decide +kernel
theorem zs_255 : (Int16.ofInt 255).toInt32 = zI 255 := by decide +kernel
theorem zs_600 : (Int16.ofInt 600).toInt32 = zI 600 := by decide +kernel
theorem zs_800 : (Int16.ofInt 800).toInt32 = zI 800 := by decide +kernel
theorem zs_1000 : (Int16.ofInt 1000).toInt32 = zI 1000 := by decide +kernel
abbrev n_X0_init : Nat := 0
abbrev n_X0_isLit : Nat := 1
abbrev n_X0_become : Nat := 2
abbrev n_X5_init : Nat := 3
abbrev n_X5_become : Nat := 4
abbrev n_X3_init : Nat := 5
abbrev n_X3_keep : Nat := 6
abbrev n_X3_giveBack : Nat := 7
abbrev n_X3_become : Nat := 8
abbrev n_X3_dropOldest : Nat := 9
abbrev n_X2_init : Nat := 10
abbrev n_X2_become : Nat := 11
abbrev n_X2_setUp : Nat := 12
abbrev n_X2_putShelf : Nat := 13
abbrev n_X2_addReader : Nat := 14
abbrev n_X2_putLamp : Nat := 15
abbrev n_X2_pourOil : Nat := 16
abbrev n_X2_tieString : Nat := 17
abbrev n_X2_tellPages : Nat := 18
abbrev n_X2_burnMinute : Nat := 19
abbrev n_X2_takeBackMinute : Nat := 20
abbrev n_X2_hasSquare : Nat := 21
abbrev n_X2_hasReader : Nat := 22
abbrev n_X2_hasShelf : Nat := 23
abbrev n_X2_isOpen : Nat := 24
abbrev n_X2_isFree : Nat := 25
abbrev n_X2_readerAt : Nat := 26
abbrev n_X2_column : Nat := 27
abbrev n_X2_row : Nat := 28
abbrev n_X2_stepsBetween : Nat := 29
abbrev n_X2_squareBeside : Nat := 30
abbrev n_X2_lightAt : Nat := 31
abbrev n_X2_shelvesBetween : Nat := 32
abbrev n_X2_fillLights : Nat := 33
abbrev n_X2_squareAfterRound : Nat := 34
abbrev n_X6_init : Nat := 35
abbrev n_X6_findBest : Nat := 36
abbrev n_X6_findBeen : Nat := 37
abbrev n_X6_goForWorth : Nat := 38
abbrev n_X6_goForTold : Nat := 39
abbrev n_X6_goMinute : Nat := 40
abbrev n_X6_mayBeBest : Nat := 41
abbrev n_X6_mayBeAsTold : Nat := 42
abbrev n_X6_pagesToCome : Nat := 43
abbrev n_X4_init : Nat := 44
abbrev n_X4_findStand : Nat := 45
abbrev n_X4_findTwo : Nat := 46
abbrev n_X4_bestSeats : Nat := 47
abbrev n_X4_bestShelf : Nat := 48
abbrev n_X4_forget : Nat := 49
abbrev n_X4_beginChanges : Nat := 50
abbrev n_X4_weighChange : Nat := 51
abbrev n_X4_weigh : Nat := 52
abbrev n_X4_joinLights : Nat := 53
abbrev n_X1_init : Nat := 54
abbrev n_X1_addBytes : Nat := 55
abbrev n_X1_empty : Nat := 56
abbrev n_X1_findItems : Nat := 57
abbrev n_X1_tellItems : Nat := 58
abbrev n_X1_tellItem : Nat := 59
abbrev n_X1_findItem : Nat := 60
abbrev n_X1_isAtEnd : Nat := 61
abbrev n_X1_skipBlanks : Nat := 62
abbrev n_X1_nextToken : Nat := 63
abbrev n_X1_wordOfToken : Nat := 64
abbrev n_X1_isToken : Nat := 65
abbrev n_X1_numberOfToken : Nat := 66
abbrev n_X1_nameOf : Nat := 67
abbrev n_X1_numbersOf : Nat := 68
abbrev n_X1_isLetter : Nat := 69
abbrev n_X1_isFigure : Nat := 70
abbrev n_X7_init : Nat := 71
abbrev n_X7_hall : Nat := 72
abbrev n_X7_shelf : Nat := 73
abbrev n_X7_reader : Nat := 74
abbrev n_X7_lamp : Nat := 75
abbrev n_X7_oil : Nat := 76
abbrev n_X7_string : Nat := 77
abbrev n_X7_light : Nat := 78
abbrev n_X7_type : Nat := 79
abbrev n_X7_clear : Nat := 80
abbrev n_X7_read : Nat := 81
abbrev n_X7_burn : Nat := 82
abbrev n_X7_undo : Nat := 83
abbrev n_X7_left : Nat := 84
abbrev n_X7_way : Nat := 85
abbrev n_X7_done : Nat := 86
abbrev n_X7_stand : Nat := 87
abbrev n_X7_two : Nat := 88
abbrev n_X7_seats : Nat := 89
abbrev n_X7_moved : Nat := 90
abbrev n_X7_rest : Nat := 91
abbrev n_X7_told : Nat := 92
abbrev n_X7_been : Nat := 93
abbrev n_X7_image : Nat := 94
abbrev n_X7_from : Nat := 95
abbrev n_X7_status : Nat := 96
abbrev n_X7_count : Nat := 97
abbrev n_X7_digest : Nat := 98
abbrev n_X7_sizeOf : Nat := 99
abbrev n_X7_bestWay : Nat := 100
abbrev n_X7_counted : Nat := 101
abbrev n_X7_asTens : Nat := 102
abbrev n_X7_isZeroOrOne : Nat := 103
abbrev n_X7_pagesByLight : Nat := 104
abbrev n_X7_readMinute : Nat := 105
abbrev n_X7_worthBetween : Nat := 106
abbrev n_X8_init : Nat := 107
abbrev n_X8_in : Nat := 108
abbrev n_X8_has : Nat := 109
abbrev n_X8_sizeOf : Nat := 110
abbrev n_X8_lesser : Nat := 111
abbrev n_X8_greater : Nat := 112
abbrev n_X8_met : Nat := 113
abbrev n_X8_metElse : Nat := 114
abbrev n_X8_copy : Nat := 115
abbrev n_X8_makeAnew : Nat := 116
abbrev n_X8_setHall : Nat := 117
abbrev n_X8_squaresOf : Nat := 118
abbrev n_X8_isSquare : Nat := 119
abbrev n_X8_sitsAt : Nat := 120
abbrev n_X8_setShelf : Nat := 121
abbrev n_X8_addReader : Nat := 122
abbrev n_X8_setLamp : Nat := 123
abbrev n_X8_setOil : Nat := 124
abbrev n_X8_setString : Nat := 125
abbrev n_X8_hall : Nat := 126
abbrev n_X8_shelf : Nat := 127
abbrev n_X8_reader : Nat := 128
abbrev n_X8_lamp : Nat := 129
abbrev n_X8_oil : Nat := 130
abbrev n_X8_string : Nat := 131
abbrev n_X8_isOne : Nat := 132
abbrev n_X8_lightOf : Nat := 133
abbrev n_X8_light : Nat := 134
abbrev n_X8_type : Nat := 135
abbrev n_X8_clear : Nat := 136
abbrev n_X8_isEnd : Nat := 137
abbrev n_X8_wordOf : Nat := 138
abbrev n_X8_numbersOf : Nat := 139
abbrev n_X8_takeNumber : Nat := 140
abbrev n_X8_takeItem : Nat := 141
abbrev n_X8_tellItem : Nat := 142
abbrev n_X8_read : Nat := 143
abbrev n_X8_beginNow : Nat := 144
abbrev n_X8_readsBy : Nat := 145
abbrev n_X8_minute : Nat := 146
abbrev n_X8_isBeside : Nat := 147
abbrev n_X8_minds : Nat := 148
abbrev n_X8_burn : Nat := 149
abbrev n_X8_undo : Nat := 150
abbrev n_X8_left : Nat := 151
abbrev n_X8_besideBehind : Nat := 152
abbrev n_X8_end : Nat := 153
abbrev n_X8_goAll : Nat := 154
abbrev n_X8_way : Nat := 155
abbrev n_X8_done : Nat := 156
abbrev n_X8_findStand : Nat := 157
abbrev n_X8_stand : Nat := 158
abbrev n_X8_two : Nat := 159
abbrev n_X8_seats : Nat := 160
abbrev n_X8_moved : Nat := 161
abbrev n_X8_pulled : Nat := 162
abbrev n_X8_rest : Nat := 163
abbrev n_X8_told : Nat := 164
abbrev n_X8_been : Nat := 165
abbrev n_X8_image : Nat := 166
abbrev n_X8_from : Nat := 167
abbrev n_X8_status : Nat := 168
abbrev n_X8_countOf : Nat := 169
abbrev n_X8_count : Nat := 170
abbrev n_X8_mix : Nat := 171
abbrev n_X8_digest : Nat := 172
abbrev n_J6_compare_7cf53 : Nat := 173
abbrev n_J6_bitCount_0f7a4 : Nat := 174
abbrev n_J6_signum_0f7a4 : Nat := 175
theorem pd_0_0 : parseFieldDescriptor (TX0 0).2.2.1 = some (.array .int) := by decide +kernel
theorem pd_0_1 : parseFieldDescriptor (TX0 1).2.2.1 = some (.int) := by decide +kernel
theorem pd_1_0 : parseFieldDescriptor (TX1 0).2.2.1 = some (.int) := by decide +kernel
theorem pd_1_1 : parseFieldDescriptor (TX1 1).2.2.1 = some (.int) := by decide +kernel
theorem pd_1_2 : parseFieldDescriptor (TX1 2).2.2.1 = some (.array .int) := by decide +kernel
theorem pd_1_3 : parseFieldDescriptor (TX1 3).2.2.1 = some (.array .int) := by decide +kernel
theorem pd_1_4 : parseFieldDescriptor (TX1 4).2.2.1 = some (.array .int) := by decide +kernel
theorem pd_1_5 : parseFieldDescriptor (TX1 5).2.2.1 = some (.int) := by decide +kernel
theorem pd_1_6 : parseFieldDescriptor (TX1 6).2.2.1 = some (.int) := by decide +kernel
theorem pd_2_0 : parseFieldDescriptor (TX2 0).2.2.1 = some (.array (.object "OneLamp$Reader")) := by decide +kernel
theorem pd_2_1 : parseFieldDescriptor (TX2 1).2.2.1 = some (.object "OneLamp$Books") := by decide +kernel
theorem pd_2_2 : parseFieldDescriptor (TX2 2).2.2.1 = some (.object "OneLamp$Minutes") := by decide +kernel
theorem pd_2_3 : parseFieldDescriptor (TX2 3).2.2.1 = some (.array .int) := by decide +kernel
theorem pd_2_4 : parseFieldDescriptor (TX2 4).2.2.1 = some (.int) := by decide +kernel
theorem pd_2_5 : parseFieldDescriptor (TX2 5).2.2.1 = some (.int) := by decide +kernel
theorem pd_2_6 : parseFieldDescriptor (TX2 6).2.2.1 = some (.int) := by decide +kernel
theorem pd_2_7 : parseFieldDescriptor (TX2 7).2.2.1 = some (.int) := by decide +kernel
theorem pd_2_8 : parseFieldDescriptor (TX2 8).2.2.1 = some (.int) := by decide +kernel
theorem pd_2_9 : parseFieldDescriptor (TX2 9).2.2.1 = some (.int) := by decide +kernel
theorem pd_2_10 : parseFieldDescriptor (TX2 10).2.2.1 = some (.int) := by decide +kernel
theorem pd_3_0 : parseFieldDescriptor (TX3 0).2.2.1 = some (.array .int) := by decide +kernel
theorem pd_3_1 : parseFieldDescriptor (TX3 1).2.2.1 = some (.array .int) := by decide +kernel
theorem pd_3_2 : parseFieldDescriptor (TX3 2).2.2.1 = some (.array .int) := by decide +kernel
theorem pd_3_3 : parseFieldDescriptor (TX3 3).2.2.1 = some (.array .int) := by decide +kernel
theorem pd_3_4 : parseFieldDescriptor (TX3 4).2.2.1 = some (.int) := by decide +kernel
theorem pd_4_0 : parseFieldDescriptor (TX4 0).2.2.1 = some (.int) := by decide +kernel
theorem pd_4_1 : parseFieldDescriptor (TX4 1).2.2.1 = some (.int) := by decide +kernel
theorem pd_4_2 : parseFieldDescriptor (TX4 2).2.2.1 = some (.int) := by decide +kernel
theorem pd_4_3 : parseFieldDescriptor (TX4 3).2.2.1 = some (.array .int) := by decide +kernel
theorem pd_4_4 : parseFieldDescriptor (TX4 4).2.2.1 = some (.array .int) := by decide +kernel
theorem pd_4_5 : parseFieldDescriptor (TX4 5).2.2.1 = some (.object "OneLamp$Books") := by decide +kernel
theorem pd_4_6 : parseFieldDescriptor (TX4 6).2.2.1 = some (.int) := by decide +kernel
theorem pd_4_7 : parseFieldDescriptor (TX4 7).2.2.1 = some (.int) := by decide +kernel
theorem pd_5_0 : parseFieldDescriptor (TX5 0).2.2.1 = some (.int) := by decide +kernel
theorem pd_5_1 : parseFieldDescriptor (TX5 1).2.2.1 = some (.int) := by decide +kernel
theorem pd_5_2 : parseFieldDescriptor (TX5 2).2.2.1 = some (.int) := by decide +kernel
theorem pd_5_3 : parseFieldDescriptor (TX5 3).2.2.1 = some (.int) := by decide +kernel
theorem pd_5_4 : parseFieldDescriptor (TX5 4).2.2.1 = some (.int) := by decide +kernel
theorem pd_5_5 : parseFieldDescriptor (TX5 5).2.2.1 = some (.int) := by decide +kernel
theorem pd_6_0 : parseFieldDescriptor (TX6 0).2.2.1 = some (.array .int) := by decide +kernel
theorem pd_6_1 : parseFieldDescriptor (TX6 1).2.2.1 = some (.int) := by decide +kernel
theorem pd_6_2 : parseFieldDescriptor (TX6 2).2.2.1 = some (.int) := by decide +kernel
theorem pd_6_3 : parseFieldDescriptor (TX6 3).2.2.1 = some (.int) := by decide +kernel
theorem pd_6_4 : parseFieldDescriptor (TX6 4).2.2.1 = some (.array (.object "OneLamp$Books")) := by decide +kernel
theorem pd_6_5 : parseFieldDescriptor (TX6 5).2.2.1 = some (.array .int) := by decide +kernel
theorem pd_6_6 : parseFieldDescriptor (TX6 6).2.2.1 = some (.array .int) := by decide +kernel
theorem pd_6_7 : parseFieldDescriptor (TX6 7).2.2.1 = some (.int) := by decide +kernel
theorem pd_6_8 : parseFieldDescriptor (TX6 8).2.2.1 = some (.int) := by decide +kernel
theorem pd_7_0 : parseFieldDescriptor (TX7 0).2.2.1 = some (.object "OneLamp$Hall") := by decide +kernel
theorem pd_7_1 : parseFieldDescriptor (TX7 1).2.2.1 = some (.object "OneLamp$Hall") := by decide +kernel
theorem pd_7_2 : parseFieldDescriptor (TX7 2).2.2.1 = some (.array (.object "OneLamp$Hall")) := by decide +kernel
theorem pd_7_3 : parseFieldDescriptor (TX7 3).2.2.1 = some (.array .boolean) := by decide +kernel
theorem pd_7_4 : parseFieldDescriptor (TX7 4).2.2.1 = some (.object "OneLamp$Card") := by decide +kernel
theorem pd_7_5 : parseFieldDescriptor (TX7 5).2.2.1 = some (.object "OneLamp$Ways") := by decide +kernel
theorem pd_7_6 : parseFieldDescriptor (TX7 6).2.2.1 = some (.object "OneLamp$Places") := by decide +kernel
theorem pd_7_7 : parseFieldDescriptor (TX7 7).2.2.1 = some (.int) := by decide +kernel
theorem pd_7_8 : parseFieldDescriptor (TX7 8).2.2.1 = some (.int) := by decide +kernel
theorem pd_7_9 : parseFieldDescriptor (TX7 9).2.2.1 = some (.int) := by decide +kernel
theorem pd_8_0 : parseFieldDescriptor (TX8 0).2.2.1 = some (.array .int) := by decide +kernel
theorem pd_8_1 : parseFieldDescriptor (TX8 1).2.2.1 = some (.array .boolean) := by decide +kernel
theorem pd_8_2 : parseFieldDescriptor (TX8 2).2.2.1 = some (.array .int) := by decide +kernel
theorem pd_8_3 : parseFieldDescriptor (TX8 3).2.2.1 = some (.int) := by decide +kernel
theorem pd_8_4 : parseFieldDescriptor (TX8 4).2.2.1 = some (.array .int) := by decide +kernel
theorem pd_8_5 : parseFieldDescriptor (TX8 5).2.2.1 = some (.array .int) := by decide +kernel
theorem pd_8_6 : parseFieldDescriptor (TX8 6).2.2.1 = some (.array .int) := by decide +kernel
theorem pd_8_7 : parseFieldDescriptor (TX8 7).2.2.1 = some (.int) := by decide +kernel
theorem pd_8_8 : parseFieldDescriptor (TX8 8).2.2.1 = some (.int) := by decide +kernel
theorem pd_8_9 : parseFieldDescriptor (TX8 9).2.2.1 = some (.int) := by decide +kernel
theorem pd_8_10 : parseFieldDescriptor (TX8 10).2.2.1 = some (.array .int) := by decide +kernel
theorem pd_8_11 : parseFieldDescriptor (TX8 11).2.2.1 = some (.array .int) := by decide +kernel
theorem pd_8_12 : parseFieldDescriptor (TX8 12).2.2.1 = some (.int) := by decide +kernel
theorem pd_8_13 : parseFieldDescriptor (TX8 13).2.2.1 = some (.array .int) := by decide +kernel
theorem pd_8_14 : parseFieldDescriptor (TX8 14).2.2.1 = some (.array .int) := by decide +kernel
theorem pd_8_15 : parseFieldDescriptor (TX8 15).2.2.1 = some (.array .int) := by decide +kernel
theorem pd_8_16 : parseFieldDescriptor (TX8 16).2.2.1 = some (.int) := by decide +kernel
theorem pd_8_17 : parseFieldDescriptor (TX8 17).2.2.1 = some (.int) := by decide +kernel
theorem pd_8_18 : parseFieldDescriptor (TX8 18).2.2.1 = some (.int) := by decide +kernel
theorem pd_8_19 : parseFieldDescriptor (TX8 19).2.2.1 = some (.int) := by decide +kernel
theorem pd_8_20 : parseFieldDescriptor (TX8 20).2.2.1 = some (.long) := by decide +kernel
theorem x_putI {d m pc : Nat} {ls r : List Value} {h : xH} {i a : Nat} {v : Value} {ci k : Nat} {cr : vw_C} {ty : FieldType} (hq : xf (xm m).1 i = some (ci, k)) (hc : vwCl[ci]? = some cr) (ht : parseFieldDescriptor (cr.2.1 k).2.2.1 = some ty) (hf : x_fit ty v = true) (hn : (cr.2.1 k).2.2.2 = true → (xm m).2.1.name = "<init>" ∧ ci = (xm m).1) :
    x_I d m pc ls (v :: .ref a :: r) h 3 (.putfield i) = (x_put h a ci k v).bind fun h1 => some (.inr (.inl (d, m, pc + 3, ls, r, h1))) := by
  show ((xf (xm m).1 i).bind _) = _
  rw [hq]
  show ((vwCl[ci]?).bind _) = _
  rw [hc]
  show ((parseFieldDescriptor (cr.2.1 k).2.2.1).bind _) = _
  rw [ht]
  exact if_pos ⟨hf, hn⟩
def x_ch (k : Nat) (j : Int32) : Option Int32 := (x_tx[k]?).bind fun t => if j < 0 then none else t[j.toNatClampNeg]?
theorem x_charI {d m pc : Nat} {ls r : List Value} {h : xH} {i k : Nat} {j : Int32} (hq : xmt (xm m).1 i = some (8, 0)) (h8 : decide ((r.map fun v => v.category).sum ≤ 8) = true) :
    x_I (d + 1) m pc ls (.int j :: .retAddr k :: r) h 3 (.invokevirtual i) = (x_ch k j).bind fun v => some (.inr (.inl (d + 1, m, pc + 3, ls, .int v :: r, h))) := by
  show ((xmt (xm m).1 i).bind _) = _
  rw [hq]
  show (if (r.map fun v => v.category).sum ≤ 8 then _ else none) = _
  rw [if_pos (of_decide_eq_true h8)]
  unfold x_ch
  cases x_tx[k]? with
  | none => rfl
  | some t =>
    show (if j < 0 then none else _) = ((if j < 0 then none else t[j.toNatClampNeg]?).bind _)
    by_cases q : j < 0
    · rw [if_pos q, if_pos q]; rfl
    · rw [if_neg q, if_neg q]; rfl
theorem x_callv_ev {α : Type} {f g : xF} {k : xE → xF} {o : Option α} (h : x_nxt f = o.bind fun _ => some (.inr (.inr (g, k)))) : x_ev f = o.bind fun _ => (x_ev g).bind fun r => x_ev (k r) := by
  cases o with
  | none => exact x_stuck_ev h
  | some v => exact x_call_ev h
