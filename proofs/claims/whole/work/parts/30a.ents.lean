/-! ENTRIES: a call is its first frame (printed by wip/whole/gen30a.py) -/
theorem e_X0_init {d : Nat} {p0 : Nat} {h : xH} : x_cl d n_X0_init [.ref p0] h = x_ev (d, n_X0_init, 0, [.ref p0], [], h) := rfl
theorem e_X0_isLit {d : Nat} {p0 : Nat} {p1 : Int32} {h : xH} : x_cl d n_X0_isLit [.ref p0, .int p1] h = x_ev (d, n_X0_isLit, 0, [.ref p0, .int p1], [], h) := rfl
theorem e_X0_become {d : Nat} {p0 : Nat} {p1 : Nat} {h : xH} : x_cl d n_X0_become [.ref p0, .ref p1] h = x_ev (d, n_X0_become, 0, [.ref p0, .ref p1], [], h) := rfl
theorem e_X5_init {d : Nat} {p0 : Nat} {h : xH} : x_cl d n_X5_init [.ref p0] h = x_ev (d, n_X5_init, 0, [.ref p0], [], h) := rfl
theorem e_X5_become {d : Nat} {p0 : Nat} {p1 : Nat} {h : xH} : x_cl d n_X5_become [.ref p0, .ref p1] h = x_ev (d, n_X5_become, 0, [.ref p0, .ref p1], [], h) := rfl
theorem e_X3_init {d : Nat} {p0 : Nat} {h : xH} : x_cl d n_X3_init [.ref p0] h = x_ev (d, n_X3_init, 0, [.ref p0], [], h) := rfl
theorem e_X3_keep {d : Nat} {p0 : Nat} {p1 : Nat} {h : xH} : x_cl d n_X3_keep [.ref p0, .ref p1] h = x_ev (d, n_X3_keep, 0, [.ref p0, .ref p1], [], h) := rfl
theorem e_X3_giveBack {d : Nat} {p0 : Nat} {p1 : Nat} {h : xH} : x_cl d n_X3_giveBack [.ref p0, .ref p1] h = x_ev (d, n_X3_giveBack, 0, [.ref p0, .ref p1], [], h) := rfl
theorem e_X3_become {d : Nat} {p0 : Nat} {p1 : Nat} {h : xH} : x_cl d n_X3_become [.ref p0, .ref p1] h = x_ev (d, n_X3_become, 0, [.ref p0, .ref p1], [], h) := rfl
theorem e_X3_dropOldest {d : Nat} {p0 : Nat} {h : xH} : x_cl d n_X3_dropOldest [.ref p0] h = x_ev (d, n_X3_dropOldest, 0, [.ref p0, .null], [], h) := rfl
theorem e_X2_init {d : Nat} {p0 : Nat} {h : xH} : x_cl d n_X2_init [.ref p0] h = x_ev (d, n_X2_init, 0, [.ref p0, .null], [], h) := rfl
theorem e_X2_become {d : Nat} {p0 : Nat} {p1 : Nat} {h : xH} : x_cl d n_X2_become [.ref p0, .ref p1] h = x_ev (d, n_X2_become, 0, [.ref p0, .ref p1, .null], [], h) := rfl
theorem e_X2_setUp {d : Nat} {p0 : Nat} {p1 : Int32} {p2 : Int32} {h : xH} : x_cl d n_X2_setUp [.ref p0, .int p1, .int p2] h = x_ev (d, n_X2_setUp, 0, [.ref p0, .int p1, .int p2], [], h) := rfl
theorem e_X2_putShelf {d : Nat} {p0 : Nat} {p1 : Int32} {p2 : Int32} {h : xH} : x_cl d n_X2_putShelf [.ref p0, .int p1, .int p2] h = x_ev (d, n_X2_putShelf, 0, [.ref p0, .int p1, .int p2], [], h) := rfl
theorem e_X2_addReader {d : Nat} {p0 : Nat} {p1 : Int32} {p2 : Int32} {p3 : Int32} {p4 : Int32} {h : xH} : x_cl d n_X2_addReader [.ref p0, .int p1, .int p2, .int p3, .int p4] h = x_ev (d, n_X2_addReader, 0, [.ref p0, .int p1, .int p2, .int p3, .int p4, .null], [], h) := rfl
theorem e_X2_putLamp {d : Nat} {p0 : Nat} {p1 : Int32} {h : xH} : x_cl d n_X2_putLamp [.ref p0, .int p1] h = x_ev (d, n_X2_putLamp, 0, [.ref p0, .int p1, .null], [], h) := rfl
theorem e_X2_pourOil {d : Nat} {p0 : Nat} {p1 : Int32} {h : xH} : x_cl d n_X2_pourOil [.ref p0, .int p1] h = x_ev (d, n_X2_pourOil, 0, [.ref p0, .int p1, .null], [], h) := rfl
theorem e_X2_tieString {d : Nat} {p0 : Nat} {p1 : Int32} {p2 : Int32} {h : xH} : x_cl d n_X2_tieString [.ref p0, .int p1, .int p2] h = x_ev (d, n_X2_tieString, 0, [.ref p0, .int p1, .int p2, .null], [], h) := rfl
theorem e_X2_tellPages {d : Nat} {p0 : Nat} {p1 : Int32} {p2 : Int32} {h : xH} : x_cl d n_X2_tellPages [.ref p0, .int p1, .int p2] h = x_ev (d, n_X2_tellPages, 0, [.ref p0, .int p1, .int p2, .null], [], h) := rfl
theorem e_X2_burnMinute {d : Nat} {p0 : Nat} {p1 : Int32} {h : xH} : x_cl d n_X2_burnMinute [.ref p0, .int p1] h = x_ev (d, n_X2_burnMinute, 0, [.ref p0, .int p1, .null], [], h) := rfl
theorem e_X2_takeBackMinute {d : Nat} {p0 : Nat} {h : xH} : x_cl d n_X2_takeBackMinute [.ref p0] h = x_ev (d, n_X2_takeBackMinute, 0, [.ref p0], [], h) := rfl
theorem e_X2_hasSquare {d : Nat} {p0 : Nat} {p1 : Int32} {h : xH} : x_cl d n_X2_hasSquare [.ref p0, .int p1] h = x_ev (d, n_X2_hasSquare, 0, [.ref p0, .int p1], [], h) := rfl
theorem e_X2_hasReader {d : Nat} {p0 : Nat} {p1 : Int32} {h : xH} : x_cl d n_X2_hasReader [.ref p0, .int p1] h = x_ev (d, n_X2_hasReader, 0, [.ref p0, .int p1], [], h) := rfl
theorem e_X2_hasShelf {d : Nat} {p0 : Nat} {p1 : Int32} {h : xH} : x_cl d n_X2_hasShelf [.ref p0, .int p1] h = x_ev (d, n_X2_hasShelf, 0, [.ref p0, .int p1], [], h) := rfl
theorem e_X2_isOpen {d : Nat} {p0 : Nat} {p1 : Int32} {h : xH} : x_cl d n_X2_isOpen [.ref p0, .int p1] h = x_ev (d, n_X2_isOpen, 0, [.ref p0, .int p1], [], h) := rfl
theorem e_X2_isFree {d : Nat} {p0 : Nat} {p1 : Int32} {h : xH} : x_cl d n_X2_isFree [.ref p0, .int p1] h = x_ev (d, n_X2_isFree, 0, [.ref p0, .int p1], [], h) := rfl
theorem e_X2_readerAt {d : Nat} {p0 : Nat} {p1 : Int32} {h : xH} : x_cl d n_X2_readerAt [.ref p0, .int p1] h = x_ev (d, n_X2_readerAt, 0, [.ref p0, .int p1, .null], [], h) := rfl
theorem e_X2_column {d : Nat} {p0 : Nat} {p1 : Int32} {h : xH} : x_cl d n_X2_column [.ref p0, .int p1] h = x_ev (d, n_X2_column, 0, [.ref p0, .int p1], [], h) := rfl
theorem e_X2_row {d : Nat} {p0 : Nat} {p1 : Int32} {h : xH} : x_cl d n_X2_row [.ref p0, .int p1] h = x_ev (d, n_X2_row, 0, [.ref p0, .int p1], [], h) := rfl
theorem e_X2_stepsBetween {d : Nat} {p0 : Nat} {p1 : Int32} {p2 : Int32} {h : xH} : x_cl d n_X2_stepsBetween [.ref p0, .int p1, .int p2] h = x_ev (d, n_X2_stepsBetween, 0, [.ref p0, .int p1, .int p2], [], h) := rfl
theorem e_X2_squareBeside {d : Nat} {p0 : Nat} {p1 : Int32} {p2 : Int32} {h : xH} : x_cl d n_X2_squareBeside [.ref p0, .int p1, .int p2] h = x_ev (d, n_X2_squareBeside, 0, [.ref p0, .int p1, .int p2, .null, .null, .null], [], h) := rfl
theorem e_X2_lightAt {d : Nat} {p0 : Nat} {p1 : Int32} {p2 : Int32} {h : xH} : x_cl d n_X2_lightAt [.ref p0, .int p1, .int p2] h = x_ev (d, n_X2_lightAt, 0, [.ref p0, .int p1, .int p2, .null, .null, .null], [], h) := rfl
theorem e_X2_shelvesBetween {d : Nat} {p0 : Nat} {p1 : Int32} {p2 : Int32} {p3 : Int32} {h : xH} : x_cl d n_X2_shelvesBetween [.ref p0, .int p1, .int p2, .int p3] h = x_ev (d, n_X2_shelvesBetween, 0, [.ref p0, .int p1, .int p2, .int p3, .null, .null, .null], [], h) := rfl
theorem e_X2_fillLights {d : Nat} {p0 : Nat} {p1 : Nat} {h : xH} : x_cl d n_X2_fillLights [.ref p0, .ref p1] h = x_ev (d, n_X2_fillLights, 0, [.ref p0, .ref p1, .null, .null, .null], [], h) := rfl
theorem e_X2_squareAfterRound {d : Nat} {p0 : Nat} {p1 : Int32} {h : xH} : x_cl d n_X2_squareAfterRound [.ref p0, .int p1] h = x_ev (d, n_X2_squareAfterRound, 0, [.ref p0, .int p1, .null, .null, .null, .null], [], h) := rfl
theorem e_X6_init {d : Nat} {p0 : Nat} {h : xH} : x_cl d n_X6_init [.ref p0] h = x_ev (d, n_X6_init, 0, [.ref p0, .null], [], h) := rfl
theorem e_X6_findBest {d : Nat} {p0 : Nat} {p1 : Nat} {p2 : Int32} {p3 : Int32} {h : xH} : x_cl d n_X6_findBest [.ref p0, .ref p1, .int p2, .int p3] h = x_ev (d, n_X6_findBest, 0, [.ref p0, .ref p1, .int p2, .int p3], [], h) := rfl
theorem e_X6_findBeen {d : Nat} {p0 : Nat} {p1 : Nat} {p2 : Int32} {p3 : Int32} {h : xH} : x_cl d n_X6_findBeen [.ref p0, .ref p1, .int p2, .int p3] h = x_ev (d, n_X6_findBeen, 0, [.ref p0, .ref p1, .int p2, .int p3, .null], [], h) := rfl
theorem e_X6_goForWorth {d : Nat} {p0 : Nat} {p1 : Nat} {p2 : Int32} {p3 : Int32} {p4 : Int32} {h : xH} : x_cl d n_X6_goForWorth [.ref p0, .ref p1, .int p2, .int p3, .int p4] h = x_ev (d, n_X6_goForWorth, 0, [.ref p0, .ref p1, .int p2, .int p3, .int p4, .null, .null, .null], [], h) := rfl
theorem e_X6_goForTold {d : Nat} {p0 : Nat} {p1 : Nat} {p2 : Int32} {p3 : Int32} {h : xH} : x_cl d n_X6_goForTold [.ref p0, .ref p1, .int p2, .int p3] h = x_ev (d, n_X6_goForTold, 0, [.ref p0, .ref p1, .int p2, .int p3, .null, .null], [], h) := rfl
theorem e_X6_goMinute {d : Nat} {p0 : Nat} {p1 : Nat} {p2 : Int32} {p3 : Int32} {h : xH} : x_cl d n_X6_goMinute [.ref p0, .ref p1, .int p2, .int p3] h = x_ev (d, n_X6_goMinute, 0, [.ref p0, .ref p1, .int p2, .int p3], [], h) := rfl
theorem e_X6_mayBeBest {d : Nat} {p0 : Nat} {p1 : Nat} {p2 : Int32} {p3 : Int32} {h : xH} : x_cl d n_X6_mayBeBest [.ref p0, .ref p1, .int p2, .int p3] h = x_ev (d, n_X6_mayBeBest, 0, [.ref p0, .ref p1, .int p2, .int p3, .null, .null, .null], [], h) := rfl
theorem e_X6_mayBeAsTold {d : Nat} {p0 : Nat} {p1 : Nat} {p2 : Int32} {h : xH} : x_cl d n_X6_mayBeAsTold [.ref p0, .ref p1, .int p2] h = x_ev (d, n_X6_mayBeAsTold, 0, [.ref p0, .ref p1, .int p2, .null, .null, .null], [], h) := rfl
theorem e_X6_pagesToCome {d : Nat} {p0 : Nat} {p1 : Nat} {p2 : Int32} {p3 : Int32} {h : xH} : x_cl d n_X6_pagesToCome [.ref p0, .ref p1, .int p2, .int p3] h = x_ev (d, n_X6_pagesToCome, 0, [.ref p0, .ref p1, .int p2, .int p3, .null], [], h) := rfl
theorem e_X4_init {d : Nat} {p0 : Nat} {h : xH} : x_cl d n_X4_init [.ref p0] h = x_ev (d, n_X4_init, 0, [.ref p0], [], h) := rfl
theorem e_X4_findStand {d : Nat} {p0 : Nat} {p1 : Nat} {h : xH} : x_cl d n_X4_findStand [.ref p0, .ref p1] h = x_ev (d, n_X4_findStand, 0, [.ref p0, .ref p1, .null], [], h) := rfl
theorem e_X4_findTwo {d : Nat} {p0 : Nat} {p1 : Nat} {h : xH} : x_cl d n_X4_findTwo [.ref p0, .ref p1] h = x_ev (d, n_X4_findTwo, 0, [.ref p0, .ref p1, .null, .null], [], h) := rfl
theorem e_X4_bestSeats {d : Nat} {p0 : Nat} {p1 : Nat} {p2 : Nat} {h : xH} : x_cl d n_X4_bestSeats [.ref p0, .ref p1, .ref p2] h = x_ev (d, n_X4_bestSeats, 0, [.ref p0, .ref p1, .ref p2, .null, .null], [], h) := rfl
theorem e_X4_bestShelf {d : Nat} {p0 : Nat} {p1 : Nat} {p2 : Nat} {h : xH} : x_cl d n_X4_bestShelf [.ref p0, .ref p1, .ref p2] h = x_ev (d, n_X4_bestShelf, 0, [.ref p0, .ref p1, .ref p2, .null, .null], [], h) := rfl
theorem e_X4_forget {d : Nat} {p0 : Nat} {h : xH} : x_cl d n_X4_forget [.ref p0] h = x_ev (d, n_X4_forget, 0, [.ref p0], [], h) := rfl
theorem e_X4_beginChanges {d : Nat} {p0 : Nat} {p1 : Nat} {p2 : Nat} {h : xH} : x_cl d n_X4_beginChanges [.ref p0, .ref p1, .ref p2] h = x_ev (d, n_X4_beginChanges, 0, [.ref p0, .ref p1, .ref p2], [], h) := rfl
theorem e_X4_weighChange {d : Nat} {p0 : Nat} {p1 : Nat} {p2 : Int32} {h : xH} : x_cl d n_X4_weighChange [.ref p0, .ref p1, .int p2] h = x_ev (d, n_X4_weighChange, 0, [.ref p0, .ref p1, .int p2], [], h) := rfl
theorem e_X4_weigh {d : Nat} {p0 : Nat} {p1 : Nat} {p2 : Nat} {p3 : Int32} {p4 : Int32} {p5 : Int32} {h : xH} : x_cl d n_X4_weigh [.ref p0, .ref p1, .ref p2, .int p3, .int p4, .int p5] h = x_ev (d, n_X4_weigh, 0, [.ref p0, .ref p1, .ref p2, .int p3, .int p4, .int p5, .null], [], h) := rfl
theorem e_X4_joinLights {d : Nat} {p0 : Nat} {p1 : Nat} {p2 : Int32} {p3 : Int32} {h : xH} : x_cl d n_X4_joinLights [.ref p0, .ref p1, .int p2, .int p3] h = x_ev (d, n_X4_joinLights, 0, [.ref p0, .ref p1, .int p2, .int p3, .null, .null], [], h) := rfl
theorem e_X1_init {d : Nat} {p0 : Nat} {h : xH} : x_cl d n_X1_init [.ref p0] h = x_ev (d, n_X1_init, 0, [.ref p0], [], h) := rfl
theorem e_X1_addBytes {d : Nat} {p0 : Nat} {p1 : Int64} {p2 : Int32} {h : xH} : x_cl d n_X1_addBytes [.ref p0, .long p1, .int p2] h = x_ev (d, n_X1_addBytes, 0, [.ref p0, .long p1, .null, .int p2, .null], [], h) := rfl
theorem e_X1_empty {d : Nat} {p0 : Nat} {h : xH} : x_cl d n_X1_empty [.ref p0] h = x_ev (d, n_X1_empty, 0, [.ref p0, .null], [], h) := rfl
theorem e_X1_findItems {d : Nat} {p0 : Nat} {h : xH} : x_cl d n_X1_findItems [.ref p0] h = x_ev (d, n_X1_findItems, 0, [.ref p0, .null, .null], [], h) := rfl
theorem e_X1_tellItems {d : Nat} {p0 : Nat} {p1 : Nat} {h : xH} : x_cl d n_X1_tellItems [.ref p0, .ref p1] h = x_ev (d, n_X1_tellItems, 0, [.ref p0, .ref p1, .null], [], h) := rfl
theorem e_X1_tellItem {d : Nat} {p0 : Nat} {p1 : Nat} {p2 : Int32} {p3 : Int32} {h : xH} : x_cl d n_X1_tellItem [.ref p0, .ref p1, .int p2, .int p3] h = x_ev (d, n_X1_tellItem, 0, [.ref p0, .ref p1, .int p2, .int p3, .null, .null], [], h) := rfl
theorem e_X1_findItem {d : Nat} {p0 : Nat} {h : xH} : x_cl d n_X1_findItem [.ref p0] h = x_ev (d, n_X1_findItem, 0, [.ref p0, .null, .null], [], h) := rfl
theorem e_X1_isAtEnd {d : Nat} {p0 : Nat} {h : xH} : x_cl d n_X1_isAtEnd [.ref p0] h = x_ev (d, n_X1_isAtEnd, 0, [.ref p0], [], h) := rfl
theorem e_X1_skipBlanks {d : Nat} {p0 : Nat} {p1 : Int32} {h : xH} : x_cl d n_X1_skipBlanks [.ref p0, .int p1] h = x_ev (d, n_X1_skipBlanks, 0, [.ref p0, .int p1, .null], [], h) := rfl
theorem e_X1_nextToken {d : Nat} {p0 : Nat} {h : xH} : x_cl d n_X1_nextToken [.ref p0] h = x_ev (d, n_X1_nextToken, 0, [.ref p0], [], h) := rfl
theorem e_X1_wordOfToken {d : Nat} {p0 : Nat} {h : xH} : x_cl d n_X1_wordOfToken [.ref p0] h = x_ev (d, n_X1_wordOfToken, 0, [.ref p0, .null], [], h) := rfl
theorem e_X1_isToken {d : Nat} {p0 : Nat} {p1 : Nat} {h : xH} : x_cl d n_X1_isToken [.ref p0, .retAddr p1] h = x_ev (d, n_X1_isToken, 0, [.ref p0, .retAddr p1, .null], [], h) := rfl
theorem e_X1_numberOfToken {d : Nat} {p0 : Nat} {h : xH} : x_cl d n_X1_numberOfToken [.ref p0] h = x_ev (d, n_X1_numberOfToken, 0, [.ref p0, .null, .null], [], h) := rfl
theorem e_X1_nameOf {d : Nat} {p0 : Int32} {h : xH} : x_cl d n_X1_nameOf [.int p0] h = x_ev (d, n_X1_nameOf, 0, [.int p0], [], h) := rfl
theorem e_X1_numbersOf {d : Nat} {p0 : Int32} {h : xH} : x_cl d n_X1_numbersOf [.int p0] h = x_ev (d, n_X1_numbersOf, 0, [.int p0], [], h) := rfl
theorem e_X1_isLetter {d : Nat} {p0 : Int32} {h : xH} : x_cl d n_X1_isLetter [.int p0] h = x_ev (d, n_X1_isLetter, 0, [.int p0], [], h) := rfl
theorem e_X1_isFigure {d : Nat} {p0 : Int32} {h : xH} : x_cl d n_X1_isFigure [.int p0] h = x_ev (d, n_X1_isFigure, 0, [.int p0], [], h) := rfl
theorem e_X7_init {d : Nat} {p0 : Nat} {h : xH} : x_cl d n_X7_init [.ref p0] h = x_ev (d, n_X7_init, 0, [.ref p0, .null], [], h) := rfl
theorem e_X7_hall {d : Nat} {p0 : Nat} {p1 : Int32} {p2 : Int32} {h : xH} : x_cl d n_X7_hall [.ref p0, .int p1, .int p2] h = x_ev (d, n_X7_hall, 0, [.ref p0, .int p1, .int p2], [], h) := rfl
theorem e_X7_shelf {d : Nat} {p0 : Nat} {p1 : Int32} {p2 : Int32} {h : xH} : x_cl d n_X7_shelf [.ref p0, .int p1, .int p2] h = x_ev (d, n_X7_shelf, 0, [.ref p0, .int p1, .int p2], [], h) := rfl
theorem e_X7_reader {d : Nat} {p0 : Nat} {p1 : Int32} {p2 : Int32} {p3 : Int32} {p4 : Int32} {h : xH} : x_cl d n_X7_reader [.ref p0, .int p1, .int p2, .int p3, .int p4] h = x_ev (d, n_X7_reader, 0, [.ref p0, .int p1, .int p2, .int p3, .int p4], [], h) := rfl
theorem e_X7_lamp {d : Nat} {p0 : Nat} {p1 : Int32} {h : xH} : x_cl d n_X7_lamp [.ref p0, .int p1] h = x_ev (d, n_X7_lamp, 0, [.ref p0, .int p1], [], h) := rfl
theorem e_X7_oil {d : Nat} {p0 : Nat} {p1 : Int32} {h : xH} : x_cl d n_X7_oil [.ref p0, .int p1] h = x_ev (d, n_X7_oil, 0, [.ref p0, .int p1], [], h) := rfl
theorem e_X7_string {d : Nat} {p0 : Nat} {p1 : Int32} {p2 : Int32} {h : xH} : x_cl d n_X7_string [.ref p0, .int p1, .int p2] h = x_ev (d, n_X7_string, 0, [.ref p0, .int p1, .int p2], [], h) := rfl
theorem e_X7_light {d : Nat} {p0 : Nat} {p1 : Int32} {p2 : Int32} {h : xH} : x_cl d n_X7_light [.ref p0, .int p1, .int p2] h = x_ev (d, n_X7_light, 0, [.ref p0, .int p1, .int p2], [], h) := rfl
theorem e_X7_type {d : Nat} {p0 : Nat} {p1 : Int64} {p2 : Int32} {h : xH} : x_cl d n_X7_type [.ref p0, .long p1, .int p2] h = x_ev (d, n_X7_type, 0, [.ref p0, .long p1, .null, .int p2], [], h) := rfl
theorem e_X7_clear {d : Nat} {p0 : Nat} {h : xH} : x_cl d n_X7_clear [.ref p0] h = x_ev (d, n_X7_clear, 0, [.ref p0], [], h) := rfl
theorem e_X7_read {d : Nat} {p0 : Nat} {h : xH} : x_cl d n_X7_read [.ref p0] h = x_ev (d, n_X7_read, 0, [.ref p0, .null, .null], [], h) := rfl
theorem e_X7_burn {d : Nat} {p0 : Nat} {p1 : Int32} {h : xH} : x_cl d n_X7_burn [.ref p0, .int p1] h = x_ev (d, n_X7_burn, 0, [.ref p0, .int p1], [], h) := rfl
theorem e_X7_undo {d : Nat} {p0 : Nat} {h : xH} : x_cl d n_X7_undo [.ref p0] h = x_ev (d, n_X7_undo, 0, [.ref p0], [], h) := rfl
theorem e_X7_left {d : Nat} {p0 : Nat} {p1 : Int32} {h : xH} : x_cl d n_X7_left [.ref p0, .int p1] h = x_ev (d, n_X7_left, 0, [.ref p0, .int p1], [], h) := rfl
theorem e_X7_way {d : Nat} {p0 : Nat} {p1 : Int32} {p2 : Int32} {h : xH} : x_cl d n_X7_way [.ref p0, .int p1, .int p2] h = x_ev (d, n_X7_way, 0, [.ref p0, .int p1, .int p2], [], h) := rfl
theorem e_X7_done {d : Nat} {p0 : Nat} {p1 : Int32} {p2 : Int32} {p3 : Int32} {h : xH} : x_cl d n_X7_done [.ref p0, .int p1, .int p2, .int p3] h = x_ev (d, n_X7_done, 0, [.ref p0, .int p1, .int p2, .int p3], [], h) := rfl
theorem e_X7_stand {d : Nat} {p0 : Nat} {p1 : Int32} {h : xH} : x_cl d n_X7_stand [.ref p0, .int p1] h = x_ev (d, n_X7_stand, 0, [.ref p0, .int p1], [], h) := rfl
theorem e_X7_two {d : Nat} {p0 : Nat} {p1 : Int32} {h : xH} : x_cl d n_X7_two [.ref p0, .int p1] h = x_ev (d, n_X7_two, 0, [.ref p0, .int p1], [], h) := rfl
theorem e_X7_seats {d : Nat} {p0 : Nat} {h : xH} : x_cl d n_X7_seats [.ref p0] h = x_ev (d, n_X7_seats, 0, [.ref p0], [], h) := rfl
theorem e_X7_moved {d : Nat} {p0 : Nat} {h : xH} : x_cl d n_X7_moved [.ref p0] h = x_ev (d, n_X7_moved, 0, [.ref p0], [], h) := rfl
theorem e_X7_rest {d : Nat} {p0 : Nat} {p1 : Int32} {h : xH} : x_cl d n_X7_rest [.ref p0, .int p1] h = x_ev (d, n_X7_rest, 0, [.ref p0, .int p1, .null, .null, .null], [], h) := rfl
theorem e_X7_told {d : Nat} {p0 : Nat} {p1 : Int32} {p2 : Int32} {h : xH} : x_cl d n_X7_told [.ref p0, .int p1, .int p2] h = x_ev (d, n_X7_told, 0, [.ref p0, .int p1, .int p2], [], h) := rfl
theorem e_X7_been {d : Nat} {p0 : Nat} {p1 : Int32} {p2 : Int32} {p3 : Int32} {h : xH} : x_cl d n_X7_been [.ref p0, .int p1, .int p2, .int p3] h = x_ev (d, n_X7_been, 0, [.ref p0, .int p1, .int p2, .int p3], [], h) := rfl
theorem e_X7_image {d : Nat} {p0 : Nat} {p1 : Int32} {h : xH} : x_cl d n_X7_image [.ref p0, .int p1] h = x_ev (d, n_X7_image, 0, [.ref p0, .int p1], [], h) := rfl
theorem e_X7_from {d : Nat} {p0 : Nat} {p1 : Int32} {h : xH} : x_cl d n_X7_from [.ref p0, .int p1] h = x_ev (d, n_X7_from, 0, [.ref p0, .int p1], [], h) := rfl
theorem e_X7_status {d : Nat} {p0 : Nat} {p1 : Int32} {h : xH} : x_cl d n_X7_status [.ref p0, .int p1] h = x_ev (d, n_X7_status, 0, [.ref p0, .int p1], [], h) := rfl
theorem e_X7_count {d : Nat} {p0 : Nat} {p1 : Int32} {h : xH} : x_cl d n_X7_count [.ref p0, .int p1] h = x_ev (d, n_X7_count, 0, [.ref p0, .int p1], [], h) := rfl
theorem e_X7_digest {d : Nat} {p0 : Nat} {h : xH} : x_cl d n_X7_digest [.ref p0] h = x_ev (d, n_X7_digest, 0, [.ref p0, .null, .null, .null, .null], [], h) := rfl
theorem e_X7_sizeOf {d : Nat} {p0 : Nat} {p1 : Int32} {h : xH} : x_cl d n_X7_sizeOf [.ref p0, .int p1] h = x_ev (d, n_X7_sizeOf, 0, [.ref p0, .int p1], [], h) := rfl
theorem e_X7_bestWay {d : Nat} {p0 : Nat} {p1 : Int32} {p2 : Int32} {p3 : Int32} {h : xH} : x_cl d n_X7_bestWay [.ref p0, .int p1, .int p2, .int p3] h = x_ev (d, n_X7_bestWay, 0, [.ref p0, .int p1, .int p2, .int p3], [], h) := rfl
theorem e_X7_counted {d : Nat} {p0 : Nat} {p1 : Int32} {h : xH} : x_cl d n_X7_counted [.ref p0, .int p1] h = x_ev (d, n_X7_counted, 0, [.ref p0, .int p1], [], h) := rfl
theorem e_X7_asTens {d : Nat} {p0 : Int32} {h : xH} : x_cl d n_X7_asTens [.int p0] h = x_ev (d, n_X7_asTens, 0, [.int p0], [], h) := rfl
theorem e_X7_isZeroOrOne {d : Nat} {p0 : Int32} {h : xH} : x_cl d n_X7_isZeroOrOne [.int p0] h = x_ev (d, n_X7_isZeroOrOne, 0, [.int p0], [], h) := rfl
theorem e_X7_pagesByLight {d : Nat} {p0 : Int32} {p1 : Int32} {h : xH} : x_cl d n_X7_pagesByLight [.int p0, .int p1] h = x_ev (d, n_X7_pagesByLight, 0, [.int p0, .int p1, .null, .null, .null], [], h) := rfl
theorem e_X7_readMinute {d : Nat} {p0 : Nat} {p1 : Nat} {p2 : Int32} {p3 : Nat} {p4 : Nat} {h : xH} : x_cl d n_X7_readMinute [.ref p0, .ref p1, .int p2, .ref p3, .ref p4] h = x_ev (d, n_X7_readMinute, 0, [.ref p0, .ref p1, .int p2, .ref p3, .ref p4, .null, .null, .null, .null, .null, .null, .null, .null], [], h) := rfl
theorem e_X7_worthBetween {d : Nat} {p0 : Nat} {p1 : Nat} {p2 : Nat} {h : xH} : x_cl d n_X7_worthBetween [.ref p0, .ref p1, .ref p2] h = x_ev (d, n_X7_worthBetween, 0, [.ref p0, .ref p1, .ref p2, .null, .null], [], h) := rfl
theorem e_X8_init {d : Nat} {p0 : Nat} {h : xH} : x_cl d n_X8_init [.ref p0] h = x_ev (d, n_X8_init, 0, [.ref p0], [], h) := rfl
theorem e_X8_in {d : Nat} {p0 : Int64} {p1 : Int64} {p2 : Int64} {h : xH} : x_cl d n_X8_in [.long p0, .long p1, .long p2] h = x_ev (d, n_X8_in, 0, [.long p0, .null, .long p1, .null, .long p2, .null], [], h) := rfl
theorem e_X8_has {d : Nat} {p0 : Int32} {p1 : Int32} {h : xH} : x_cl d n_X8_has [.int p0, .int p1] h = x_ev (d, n_X8_has, 0, [.int p0, .int p1], [], h) := rfl
theorem e_X8_sizeOf {d : Nat} {p0 : Int32} {h : xH} : x_cl d n_X8_sizeOf [.int p0] h = x_ev (d, n_X8_sizeOf, 0, [.int p0], [], h) := rfl
theorem e_X8_lesser {d : Nat} {p0 : Int32} {p1 : Int32} {h : xH} : x_cl d n_X8_lesser [.int p0, .int p1] h = x_ev (d, n_X8_lesser, 0, [.int p0, .int p1], [], h) := rfl
theorem e_X8_greater {d : Nat} {p0 : Int32} {p1 : Int32} {h : xH} : x_cl d n_X8_greater [.int p0, .int p1] h = x_ev (d, n_X8_greater, 0, [.int p0, .int p1], [], h) := rfl
theorem e_X8_met {d : Nat} {p0 : Nat} {p1 : Int32} {h : xH} : x_cl d n_X8_met [.ref p0, .int p1] h = x_ev (d, n_X8_met, 0, [.ref p0, .int p1], [], h) := rfl
theorem e_X8_metElse {d : Nat} {p0 : Nat} {p1 : Int32} {h : xH} : x_cl d n_X8_metElse [.ref p0, .int p1] h = x_ev (d, n_X8_metElse, 0, [.ref p0, .int p1], [], h) := rfl
theorem e_X8_copy {d : Nat} {p0 : Nat} {p1 : Int32} {p2 : Int32} {h : xH} : x_cl d n_X8_copy [.ref p0, .int p1, .int p2] h = x_ev (d, n_X8_copy, 0, [.ref p0, .int p1, .int p2, .null], [], h) := rfl
theorem e_X8_makeAnew {d : Nat} {p0 : Nat} {p1 : Int32} {p2 : Int32} {p3 : Int32} {h : xH} : x_cl d n_X8_makeAnew [.ref p0, .int p1, .int p2, .int p3] h = x_ev (d, n_X8_makeAnew, 0, [.ref p0, .int p1, .int p2, .int p3, .null], [], h) := rfl
theorem e_X8_setHall {d : Nat} {p0 : Nat} {p1 : Int32} {p2 : Int32} {p3 : Int32} {h : xH} : x_cl d n_X8_setHall [.ref p0, .int p1, .int p2, .int p3] h = x_ev (d, n_X8_setHall, 0, [.ref p0, .int p1, .int p2, .int p3], [], h) := rfl
theorem e_X8_squaresOf {d : Nat} {p0 : Nat} {p1 : Int32} {h : xH} : x_cl d n_X8_squaresOf [.ref p0, .int p1] h = x_ev (d, n_X8_squaresOf, 0, [.ref p0, .int p1], [], h) := rfl
theorem e_X8_isSquare {d : Nat} {p0 : Nat} {p1 : Int32} {p2 : Int32} {h : xH} : x_cl d n_X8_isSquare [.ref p0, .int p1, .int p2] h = x_ev (d, n_X8_isSquare, 0, [.ref p0, .int p1, .int p2], [], h) := rfl
theorem e_X8_sitsAt {d : Nat} {p0 : Nat} {p1 : Int32} {p2 : Int32} {h : xH} : x_cl d n_X8_sitsAt [.ref p0, .int p1, .int p2] h = x_ev (d, n_X8_sitsAt, 0, [.ref p0, .int p1, .int p2, .null, .null], [], h) := rfl
theorem e_X8_setShelf {d : Nat} {p0 : Nat} {p1 : Int32} {p2 : Int32} {p3 : Int32} {h : xH} : x_cl d n_X8_setShelf [.ref p0, .int p1, .int p2, .int p3] h = x_ev (d, n_X8_setShelf, 0, [.ref p0, .int p1, .int p2, .int p3], [], h) := rfl
theorem e_X8_addReader {d : Nat} {p0 : Nat} {p1 : Int32} {p2 : Int32} {p3 : Int32} {p4 : Int32} {p5 : Int32} {h : xH} : x_cl d n_X8_addReader [.ref p0, .int p1, .int p2, .int p3, .int p4, .int p5] h = x_ev (d, n_X8_addReader, 0, [.ref p0, .int p1, .int p2, .int p3, .int p4, .int p5, .null], [], h) := rfl
theorem e_X8_setLamp {d : Nat} {p0 : Nat} {p1 : Int32} {p2 : Int32} {h : xH} : x_cl d n_X8_setLamp [.ref p0, .int p1, .int p2] h = x_ev (d, n_X8_setLamp, 0, [.ref p0, .int p1, .int p2, .null], [], h) := rfl
theorem e_X8_setOil {d : Nat} {p0 : Nat} {p1 : Int32} {p2 : Int32} {h : xH} : x_cl d n_X8_setOil [.ref p0, .int p1, .int p2] h = x_ev (d, n_X8_setOil, 0, [.ref p0, .int p1, .int p2, .null], [], h) := rfl
theorem e_X8_setString {d : Nat} {p0 : Nat} {p1 : Int32} {p2 : Int32} {p3 : Int32} {h : xH} : x_cl d n_X8_setString [.ref p0, .int p1, .int p2, .int p3] h = x_ev (d, n_X8_setString, 0, [.ref p0, .int p1, .int p2, .int p3, .null], [], h) := rfl
theorem e_X8_hall {d : Nat} {p0 : Nat} {p1 : Int32} {p2 : Int32} {h : xH} : x_cl d n_X8_hall [.ref p0, .int p1, .int p2] h = x_ev (d, n_X8_hall, 0, [.ref p0, .int p1, .int p2], [], h) := rfl
theorem e_X8_shelf {d : Nat} {p0 : Nat} {p1 : Int32} {p2 : Int32} {h : xH} : x_cl d n_X8_shelf [.ref p0, .int p1, .int p2] h = x_ev (d, n_X8_shelf, 0, [.ref p0, .int p1, .int p2], [], h) := rfl
theorem e_X8_reader {d : Nat} {p0 : Nat} {p1 : Int32} {p2 : Int32} {p3 : Int32} {p4 : Int32} {h : xH} : x_cl d n_X8_reader [.ref p0, .int p1, .int p2, .int p3, .int p4] h = x_ev (d, n_X8_reader, 0, [.ref p0, .int p1, .int p2, .int p3, .int p4], [], h) := rfl
theorem e_X8_lamp {d : Nat} {p0 : Nat} {p1 : Int32} {h : xH} : x_cl d n_X8_lamp [.ref p0, .int p1] h = x_ev (d, n_X8_lamp, 0, [.ref p0, .int p1, .null], [], h) := rfl
theorem e_X8_oil {d : Nat} {p0 : Nat} {p1 : Int32} {h : xH} : x_cl d n_X8_oil [.ref p0, .int p1] h = x_ev (d, n_X8_oil, 0, [.ref p0, .int p1], [], h) := rfl
theorem e_X8_string {d : Nat} {p0 : Nat} {p1 : Int32} {p2 : Int32} {h : xH} : x_cl d n_X8_string [.ref p0, .int p1, .int p2] h = x_ev (d, n_X8_string, 0, [.ref p0, .int p1, .int p2], [], h) := rfl
theorem e_X8_isOne {d : Nat} {p0 : Nat} {p1 : Int32} {h : xH} : x_cl d n_X8_isOne [.ref p0, .int p1] h = x_ev (d, n_X8_isOne, 0, [.ref p0, .int p1], [], h) := rfl
theorem e_X8_lightOf {d : Nat} {p0 : Nat} {p1 : Int32} {p2 : Int32} {h : xH} : x_cl d n_X8_lightOf [.ref p0, .int p1, .int p2] h = x_ev (d, n_X8_lightOf, 0, [.ref p0, .int p1, .int p2, .null, .null, .null, .null, .null, .null, .null], [], h) := rfl
theorem e_X8_light {d : Nat} {p0 : Nat} {p1 : Int32} {p2 : Int32} {h : xH} : x_cl d n_X8_light [.ref p0, .int p1, .int p2] h = x_ev (d, n_X8_light, 0, [.ref p0, .int p1, .int p2], [], h) := rfl
theorem e_X8_type {d : Nat} {p0 : Nat} {p1 : Int64} {p2 : Int32} {h : xH} : x_cl d n_X8_type [.ref p0, .long p1, .int p2] h = x_ev (d, n_X8_type, 0, [.ref p0, .long p1, .null, .int p2, .null], [], h) := rfl
theorem e_X8_clear {d : Nat} {p0 : Nat} {h : xH} : x_cl d n_X8_clear [.ref p0] h = x_ev (d, n_X8_clear, 0, [.ref p0, .null], [], h) := rfl
theorem e_X8_isEnd {d : Nat} {p0 : Nat} {h : xH} : x_cl d n_X8_isEnd [.ref p0] h = x_ev (d, n_X8_isEnd, 0, [.ref p0], [], h) := rfl
theorem e_X8_wordOf {d : Nat} {p0 : Int64} {h : xH} : x_cl d n_X8_wordOf [.long p0] h = x_ev (d, n_X8_wordOf, 0, [.long p0, .null], [], h) := rfl
theorem e_X8_numbersOf {d : Nat} {p0 : Int32} {h : xH} : x_cl d n_X8_numbersOf [.int p0] h = x_ev (d, n_X8_numbersOf, 0, [.int p0], [], h) := rfl
theorem e_X8_takeNumber {d : Nat} {p0 : Nat} {h : xH} : x_cl d n_X8_takeNumber [.ref p0] h = x_ev (d, n_X8_takeNumber, 0, [.ref p0, .null, .null], [], h) := rfl
theorem e_X8_takeItem {d : Nat} {p0 : Nat} {h : xH} : x_cl d n_X8_takeItem [.ref p0] h = x_ev (d, n_X8_takeItem, 0, [.ref p0, .null, .null, .null, .null, .null], [], h) := rfl
theorem e_X8_tellItem {d : Nat} {p0 : Nat} {p1 : Int32} {h : xH} : x_cl d n_X8_tellItem [.ref p0, .int p1] h = x_ev (d, n_X8_tellItem, 0, [.ref p0, .int p1, .null, .null], [], h) := rfl
theorem e_X8_read {d : Nat} {p0 : Nat} {h : xH} : x_cl d n_X8_read [.ref p0] h = x_ev (d, n_X8_read, 0, [.ref p0, .null], [], h) := rfl
theorem e_X8_beginNow {d : Nat} {p0 : Nat} {h : xH} : x_cl d n_X8_beginNow [.ref p0] h = x_ev (d, n_X8_beginNow, 0, [.ref p0, .null], [], h) := rfl
theorem e_X8_readsBy {d : Nat} {p0 : Nat} {p1 : Int32} {p2 : Int32} {p3 : Int32} {h : xH} : x_cl d n_X8_readsBy [.ref p0, .int p1, .int p2, .int p3] h = x_ev (d, n_X8_readsBy, 0, [.ref p0, .int p1, .int p2, .int p3, .null, .null, .null], [], h) := rfl
theorem e_X8_minute {d : Nat} {p0 : Nat} {p1 : Int32} {p2 : Int32} {p3 : Int32} {h : xH} : x_cl d n_X8_minute [.ref p0, .int p1, .int p2, .int p3] h = x_ev (d, n_X8_minute, 0, [.ref p0, .int p1, .int p2, .int p3, .null, .null, .null, .null], [], h) := rfl
theorem e_X8_isBeside {d : Nat} {p0 : Nat} {p1 : Int32} {p2 : Int32} {h : xH} : x_cl d n_X8_isBeside [.ref p0, .int p1, .int p2] h = x_ev (d, n_X8_isBeside, 0, [.ref p0, .int p1, .int p2], [], h) := rfl
theorem e_X8_minds {d : Nat} {p0 : Nat} {h : xH} : x_cl d n_X8_minds [.ref p0] h = x_ev (d, n_X8_minds, 0, [.ref p0, .null, .null], [], h) := rfl
theorem e_X8_burn {d : Nat} {p0 : Nat} {p1 : Int32} {h : xH} : x_cl d n_X8_burn [.ref p0, .int p1] h = x_ev (d, n_X8_burn, 0, [.ref p0, .int p1, .null], [], h) := rfl
theorem e_X8_undo {d : Nat} {p0 : Nat} {h : xH} : x_cl d n_X8_undo [.ref p0] h = x_ev (d, n_X8_undo, 0, [.ref p0, .null, .null], [], h) := rfl
theorem e_X8_left {d : Nat} {p0 : Nat} {p1 : Int32} {h : xH} : x_cl d n_X8_left [.ref p0, .int p1] h = x_ev (d, n_X8_left, 0, [.ref p0, .int p1], [], h) := rfl
theorem e_X8_besideBehind {d : Nat} {p0 : Nat} {p1 : Int32} {p2 : Int32} {h : xH} : x_cl d n_X8_besideBehind [.ref p0, .int p1, .int p2] h = x_ev (d, n_X8_besideBehind, 0, [.ref p0, .int p1, .int p2, .null], [], h) := rfl
theorem e_X8_end {d : Nat} {p0 : Nat} {p1 : Int32} {p2 : Int32} {p3 : Int32} {h : xH} : x_cl d n_X8_end [.ref p0, .int p1, .int p2, .int p3] h = x_ev (d, n_X8_end, 0, [.ref p0, .int p1, .int p2, .int p3, .null, .null, .null], [], h) := rfl
theorem e_X8_goAll {d : Nat} {p0 : Nat} {p1 : Int32} {p2 : Int32} {p3 : Int32} {p4 : Int32} {h : xH} : x_cl d n_X8_goAll [.ref p0, .int p1, .int p2, .int p3, .int p4] h = x_ev (d, n_X8_goAll, 0, [.ref p0, .int p1, .int p2, .int p3, .int p4, .null, .null, .null], [], h) := rfl
theorem e_X8_way {d : Nat} {p0 : Nat} {p1 : Int32} {p2 : Int32} {h : xH} : x_cl d n_X8_way [.ref p0, .int p1, .int p2] h = x_ev (d, n_X8_way, 0, [.ref p0, .int p1, .int p2], [], h) := rfl
theorem e_X8_done {d : Nat} {p0 : Nat} {p1 : Int32} {p2 : Int32} {p3 : Int32} {h : xH} : x_cl d n_X8_done [.ref p0, .int p1, .int p2, .int p3] h = x_ev (d, n_X8_done, 0, [.ref p0, .int p1, .int p2, .int p3], [], h) := rfl
theorem e_X8_findStand {d : Nat} {p0 : Nat} {h : xH} : x_cl d n_X8_findStand [.ref p0] h = x_ev (d, n_X8_findStand, 0, [.ref p0, .null, .null, .null], [], h) := rfl
theorem e_X8_stand {d : Nat} {p0 : Nat} {p1 : Int32} {h : xH} : x_cl d n_X8_stand [.ref p0, .int p1] h = x_ev (d, n_X8_stand, 0, [.ref p0, .int p1, .null], [], h) := rfl
theorem e_X8_two {d : Nat} {p0 : Nat} {p1 : Int32} {h : xH} : x_cl d n_X8_two [.ref p0, .int p1] h = x_ev (d, n_X8_two, 0, [.ref p0, .int p1, .null, .null, .null, .null, .null], [], h) := rfl
theorem e_X8_seats {d : Nat} {p0 : Nat} {h : xH} : x_cl d n_X8_seats [.ref p0] h = x_ev (d, n_X8_seats, 0, [.ref p0, .null, .null, .null, .null, .null, .null, .null], [], h) := rfl
theorem e_X8_moved {d : Nat} {p0 : Nat} {h : xH} : x_cl d n_X8_moved [.ref p0] h = x_ev (d, n_X8_moved, 0, [.ref p0, .null, .null, .null, .null, .null, .null], [], h) := rfl
theorem e_X8_pulled {d : Nat} {p0 : Nat} {p1 : Int32} {h : xH} : x_cl d n_X8_pulled [.ref p0, .int p1] h = x_ev (d, n_X8_pulled, 0, [.ref p0, .int p1, .null, .null, .null, .null, .null, .null], [], h) := rfl
theorem e_X8_rest {d : Nat} {p0 : Nat} {p1 : Int32} {h : xH} : x_cl d n_X8_rest [.ref p0, .int p1] h = x_ev (d, n_X8_rest, 0, [.ref p0, .int p1, .null, .null, .null], [], h) := rfl
theorem e_X8_told {d : Nat} {p0 : Nat} {p1 : Int32} {p2 : Int32} {h : xH} : x_cl d n_X8_told [.ref p0, .int p1, .int p2] h = x_ev (d, n_X8_told, 0, [.ref p0, .int p1, .int p2, .null], [], h) := rfl
theorem e_X8_been {d : Nat} {p0 : Nat} {p1 : Int32} {p2 : Int32} {p3 : Int32} {h : xH} : x_cl d n_X8_been [.ref p0, .int p1, .int p2, .int p3] h = x_ev (d, n_X8_been, 0, [.ref p0, .int p1, .int p2, .int p3, .null], [], h) := rfl
theorem e_X8_image {d : Nat} {p0 : Nat} {p1 : Int32} {h : xH} : x_cl d n_X8_image [.ref p0, .int p1] h = x_ev (d, n_X8_image, 0, [.ref p0, .int p1], [], h) := rfl
theorem e_X8_from {d : Nat} {p0 : Nat} {p1 : Int32} {h : xH} : x_cl d n_X8_from [.ref p0, .int p1] h = x_ev (d, n_X8_from, 0, [.ref p0, .int p1], [], h) := rfl
theorem e_X8_status {d : Nat} {p0 : Nat} {p1 : Int32} {h : xH} : x_cl d n_X8_status [.ref p0, .int p1] h = x_ev (d, n_X8_status, 0, [.ref p0, .int p1], [], h) := rfl
theorem e_X8_countOf {d : Nat} {p0 : Nat} {p1 : Int32} {h : xH} : x_cl d n_X8_countOf [.ref p0, .int p1] h = x_ev (d, n_X8_countOf, 0, [.ref p0, .int p1, .null, .null], [], h) := rfl
theorem e_X8_count {d : Nat} {p0 : Nat} {p1 : Int32} {h : xH} : x_cl d n_X8_count [.ref p0, .int p1] h = x_ev (d, n_X8_count, 0, [.ref p0, .int p1], [], h) := rfl
theorem e_X8_mix {d : Nat} {p0 : Nat} {p1 : Int64} {h : xH} : x_cl d n_X8_mix [.ref p0, .long p1] h = x_ev (d, n_X8_mix, 0, [.ref p0, .long p1, .null], [], h) := rfl
theorem e_X8_digest {d : Nat} {p0 : Nat} {h : xH} : x_cl d n_X8_digest [.ref p0] h = x_ev (d, n_X8_digest, 0, [.ref p0, .null], [], h) := rfl
theorem e_J6_compare_7cf53 {d : Nat} {p0 : Int32} {p1 : Int32} {h : xH} : x_cl d n_J6_compare_7cf53 [.int p0, .int p1] h = x_ev (d, n_J6_compare_7cf53, 0, [.int p0, .int p1], [], h) := rfl
theorem e_J6_bitCount_0f7a4 {d : Nat} {p0 : Int32} {h : xH} : x_cl d n_J6_bitCount_0f7a4 [.int p0] h = x_ev (d, n_J6_bitCount_0f7a4, 0, [.int p0], [], h) := rfl
theorem e_J6_signum_0f7a4 {d : Nat} {p0 : Int32} {h : xH} : x_cl d n_J6_signum_0f7a4 [.int p0] h = x_ev (d, n_J6_signum_0f7a4, 0, [.int p0], [], h) := rfl
