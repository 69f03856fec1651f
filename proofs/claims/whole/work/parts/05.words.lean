/-! methods: name, code, locals, answer -/
def mX0_init : qM := (yX0_init, cX0_init, 1, none)
def mX0_arrange : qM := (yX0_arrange, cX0_arrange, 5, none)
def mX0_wouldBreach : qM := (yX0_wouldBreach, cX0_wouldBreach, 3, some .boolean)
def mX0_breachedBy : qM := (yX0_breachedBy, cX0_breachedBy, 5, some .int)
def mX0_fillFewest : qM := (yX0_fillFewest, cX0_fillFewest, 5, none)
def mX0_fewestWith : qM := (yX0_fewestWith, cX0_fewestWith, 3, some .int)
def mX0_setOrder : qM := (yX0_setOrder, cX0_setOrder, 4, none)
def mX0_firstBehind : qM := (yX0_firstBehind, cX0_firstBehind, 3, some .int)
def mX1_init : qM := (yX1_init, cX1_init, 1, none)
def mX1_clear : qM := (yX1_clear, cX1_clear, 1, none)
def mX1_give : qM := (yX1_give, cX1_give, 5, none)
def mX2_init : qM := (yX2_init, cX2_init, 1, none)
def mX2_search : qM := (yX2_search, cX2_search, 6, none)
def mX2_reach : qM := (yX2_reach, cX2_reach, 5, some .boolean)
def mX2_prepare : qM := (yX2_prepare, cX2_prepare, 6, none)
def mX2_readStops : qM := (yX2_readStops, cX2_readStops, 5, none)
def mX2_fillPair : qM := (yX2_fillPair, cX2_fillPair, 8, none)
def mX2_openKnown : qM := (yX2_openKnown, cX2_openKnown, 2, none)
def mX2_needOf : qM := (yX2_needOf, cX2_needOf, 2, some .int)
def mX2_keep : qM := (yX2_keep, cX2_keep, 3, none)
def mX2_placeOf : qM := (yX2_placeOf, cX2_placeOf, 3, some .int)
def mX2_leastNeed : qM := (yX2_leastNeed, cX2_leastNeed, 10, some .int)
def mX2_pairNeedAt : qM := (yX2_pairNeedAt, cX2_pairNeedAt, 4, some .int)
def mX2_nextStations : qM := (yX2_nextStations, cX2_nextStations, 5, some .int)
def mX2_passed : qM := (yX2_passed, cX2_passed, 5, some .int)
def mX3_init : qM := (yX3_init, cX3_init, 1, none)
def mX3_tell : qM := (yX3_tell, cX3_tell, 3, none)
def mX3_fewestFor : qM := (yX3_fewestFor, cX3_fewestFor, 5, some .int)
def mX3_unionOf : qM := (yX3_unionOf, cX3_unionOf, 4, some .int)
def mX3_lesser : qM := (yX3_lesser, cX3_lesser, 3, some .int)
def mX4_init : qM := (yX4_init, cX4_init, 2, none)
def mX4_make : qM := (yX4_make, cX4_make, 4, none)
def mX4_isMade : qM := (yX4_isMade, cX4_isMade, 1, some .boolean)
def mX4_rowCount : qM := (yX4_rowCount, cX4_rowCount, 1, some .int)
def mX4_columnCount : qM := (yX4_columnCount, cX4_columnCount, 1, some .int)
def mX4_hasRow : qM := (yX4_hasRow, cX4_hasRow, 2, some .boolean)
def mX4_hasColumn : qM := (yX4_hasColumn, cX4_hasColumn, 2, some .boolean)
def mX4_stationOf : qM := (yX4_stationOf, cX4_stationOf, 2, some .int)
def mX4_trainOf : qM := (yX4_trainOf, cX4_trainOf, 2, some .int)
def mX4_read : qM := (yX4_read, cX4_read, 6, some .int)
def mX4_countBreaches : qM := (yX4_countBreaches, cX4_countBreaches, 1, some .int)
def mX4_countKnots : qM := (yX4_countKnots, cX4_countKnots, 1, some .int)
def mX4_isBreach : qM := (yX4_isBreach, cX4_isBreach, 3, some .boolean)
def mX4_laneCount : qM := (yX4_laneCount, cX4_laneCount, 1, some .int)
def mX4_laneOf : qM := (yX4_laneOf, cX4_laneOf, 2, some .int)
def mX4_takeMembers : qM := (yX4_takeMembers, cX4_takeMembers, 4, none)
def mX4_placeStops : qM := (yX4_placeStops, cX4_placeStops, 4, none)
def mX4_firstRow : qM := (yX4_firstRow, cX4_firstRow, 2, some .int)
def mX4_lastRow : qM := (yX4_lastRow, cX4_lastRow, 2, some .int)
def mX4_planLanes : qM := (yX4_planLanes, cX4_planLanes, 3, none)
def mX5_init : qM := (yX5_init, cX5_init, 1, none)
def mX5_takes : qM := (yX5_takes, cX5_takes, 4, some .boolean)
def mX5_add : qM := (yX5_add, cX5_add, 4, none)
def mX5_dropLast : qM := (yX5_dropLast, cX5_dropLast, 1, none)
def mX5_staysInDay : qM := (yX5_staysInDay, cX5_staysInDay, 6, some .boolean)
def mX5_move : qM := (yX5_move, cX5_move, 3, none)
def mX5_runsOn : qM := (yX5_runsOn, cX5_runsOn, 2, some .boolean)
def mX5_read : qM := (yX5_read, cX5_read, 3, some .int)
def mX5_leaves : qM := (yX5_leaves, cX5_leaves, 2, some .int)
def mX5_isAheadSomewhere : qM := (yX5_isAheadSomewhere, cX5_isAheadSomewhere, 4, some .boolean)
def mX5_copy : qM := (yX5_copy, cX5_copy, 2, none)
def mX6_init : qM := (yX6_init, cX6_init, 1, none)
def mX6_setOut : qM := (yX6_setOut, cX6_setOut, 5, none)
def mX6_findBest : qM := (yX6_findBest, cX6_findBest, 4, some .boolean)
def mX6_read : qM := (yX6_read, cX6_read, 3, some .int)
def mX6_findDepartures : qM := (yX6_findDepartures, cX6_findDepartures, 6, some .int)
def mX6_departureAt : qM := (yX6_departureAt, cX6_departureAt, 2, some .int)
def mX6_readLeg : qM := (yX6_readLeg, cX6_readLeg, 4, some .int)
def mX6_soonestAt : qM := (yX6_soonestAt, cX6_soonestAt, 7, some .int)
def mX6_ride : qM := (yX6_ride, cX6_ride, 6, some .boolean)
def mX6_countLegs : qM := (yX6_countLegs, cX6_countLegs, 5, none)
def mX6_lastBoardTo : qM := (yX6_lastBoardTo, cX6_lastBoardTo, 4, some .int)
def mX6_lastBoardBefore : qM := (yX6_lastBoardBefore, cX6_lastBoardBefore, 5, some .int)
def mX6_canChange : qM := (yX6_canChange, cX6_canChange, 6, some .boolean)
def mX6_firstTrain : qM := (yX6_firstTrain, cX6_firstTrain, 5, some .int)
def mX6_chooseTrains : qM := (yX6_chooseTrains, cX6_chooseTrains, 4, none)
def mX6_chooseTrain : qM := (yX6_chooseTrain, cX6_chooseTrain, 5, none)
def mX6_firstBoard : qM := (yX6_firstBoard, cX6_firstBoard, 8, some .int)
def mX6_chooseStations : qM := (yX6_chooseStations, cX6_chooseStations, 4, none)
def mX6_limitBefore : qM := (yX6_limitBefore, cX6_limitBefore, 5, some .int)
def mX6_leastChange : qM := (yX6_leastChange, cX6_leastChange, 5, some .int)
def mX6_collectMinutes : qM := (yX6_collectMinutes, cX6_collectMinutes, 4, none)
def mX6_insertMinute : qM := (yX6_insertMinute, cX6_insertMinute, 3, none)
def mX7_init : qM := (yX7_init, cX7_init, 2, none)
def mX7_train : qM := (yX7_train, cX7_train, 2, some .int)
def mX7_stop : qM := (yX7_stop, cX7_stop, 6, some .int)
def mX7_days : qM := (yX7_days, cX7_days, 4, some .boolean)
def mX7_cut : qM := (yX7_cut, cX7_cut, 3, some .boolean)
def mX7_shift : qM := (yX7_shift, cX7_shift, 4, some .boolean)
def mX7_sign : qM := (yX7_sign, cX7_sign, 3, some .boolean)
def mX7_change : qM := (yX7_change, cX7_change, 2, some .boolean)
def mX7_about : qM := (yX7_about, cX7_about, 3, some .int)
def mX7_signs : qM := (yX7_signs, cX7_signs, 5, some .int)
def mX7_table : qM := (yX7_table, cX7_table, 2, some .int)
def mX7_row : qM := (yX7_row, cX7_row, 2, some .int)
def mX7_column : qM := (yX7_column, cX7_column, 2, some .int)
def mX7_cell : qM := (yX7_cell, cX7_cell, 4, some .int)
def mX7_breaches : qM := (yX7_breaches, cX7_breaches, 2, some .int)
def mX7_breach : qM := (yX7_breach, cX7_breach, 3, some .int)
def mX7_lanes : qM := (yX7_lanes, cX7_lanes, 1, some .int)
def mX7_lane : qM := (yX7_lane, cX7_lane, 2, some .int)
def mX7_way : qM := (yX7_way, cX7_way, 6, some .int)
def mX7_departures : qM := (yX7_departures, cX7_departures, 4, some .int)
def mX7_departure : qM := (yX7_departure, cX7_departure, 6, some .int)
def mX7_areDays : qM := (yX7_areDays, cX7_areDays, 1, some .boolean)
def mX7_isStation : qM := (yX7_isStation, cX7_isStation, 1, some .boolean)
def mX7_canTravel : qM := (yX7_canTravel, cX7_canTravel, 3, some .boolean)
def mX7_trainOf : qM := (yX7_trainOf, cX7_trainOf, 2, some (.object "TrainBook$Train"))
def mX7_aboutBook : qM := (yX7_aboutBook, cX7_aboutBook, 2, some .int)
def mX7_canBeTable : qM := (yX7_canBeTable, cX7_canBeTable, 3, some .boolean)
def mX8_init : qM := (yX8_init, cX8_init, 1, none)
def mX8_isTrain : qM := (yX8_isTrain, cX8_isTrain, 2, some .boolean)
def mX8_isStation : qM := (yX8_isStation, cX8_isStation, 2, some .boolean)
def mX8_isMinute : qM := (yX8_isMinute, cX8_isMinute, 2, some .boolean)
def mX8_isDays : qM := (yX8_isDays, cX8_isDays, 2, some .boolean)
def mX8_train : qM := (yX8_train, cX8_train, 2, some .int)
def mX8_stopAt : qM := (yX8_stopAt, cX8_stopAt, 4, some .int)
def mX8_stop : qM := (yX8_stop, cX8_stop, 6, some .int)
def mX8_days : qM := (yX8_days, cX8_days, 3, some .boolean)
def mX8_cut : qM := (yX8_cut, cX8_cut, 2, some .boolean)
def mX8_shift : qM := (yX8_shift, cX8_shift, 4, some .boolean)
def mX8_sign : qM := (yX8_sign, cX8_sign, 3, some .boolean)
def mX8_change : qM := (yX8_change, cX8_change, 2, some .boolean)
def mX8_about : qM := (yX8_about, cX8_about, 5, some .int)
def mX8_ones : qM := (yX8_ones, cX8_ones, 4, some .int)
def mX8_signs : qM := (yX8_signs, cX8_signs, 9, some .int)
def mX8_digit : qM := (yX8_digit, cX8_digit, 3, some .int)
def mX8_behind : qM := (yX8_behind, cX8_behind, 6, some .int)
def mX8_isPlace : qM := (yX8_isPlace, cX8_isPlace, 3, some .boolean)
def mX8_findRows : qM := (yX8_findRows, cX8_findRows, 6, none)
def mX8_leaves : qM := (yX8_leaves, cX8_leaves, 3, some .int)
def mX8_isBreach : qM := (yX8_isBreach, cX8_isBreach, 5, some .boolean)
def mX8_breachesOf : qM := (yX8_breachesOf, cX8_breachesOf, 5, some .int)
def mX8_goesOn : qM := (yX8_goesOn, cX8_goesOn, 5, some .boolean)
def mX8_swap : qM := (yX8_swap, cX8_swap, 4, none)
def mX8_findColumns : qM := (yX8_findColumns, cX8_findColumns, 5, none)
def mX8_first : qM := (yX8_first, cX8_first, 2, some .int)
def mX8_last : qM := (yX8_last, cX8_last, 2, some .int)
def mX8_findLanes : qM := (yX8_findLanes, cX8_findLanes, 4, none)
def mX8_isFree : qM := (yX8_isFree, cX8_isFree, 4, some .boolean)
def mX8_table : qM := (yX8_table, cX8_table, 4, some .int)
def mX8_row : qM := (yX8_row, cX8_row, 2, some .int)
def mX8_isColumn : qM := (yX8_isColumn, cX8_isColumn, 2, some .boolean)
def mX8_column : qM := (yX8_column, cX8_column, 2, some .int)
def mX8_cell : qM := (yX8_cell, cX8_cell, 6, some .int)
def mX8_breaches : qM := (yX8_breaches, cX8_breaches, 5, some .int)
def mX8_breach : qM := (yX8_breach, cX8_breach, 3, some .int)
def mX8_lanes : qM := (yX8_lanes, cX8_lanes, 1, some .int)
def mX8_lane : qM := (yX8_lane, cX8_lane, 2, some .int)
def mX8_runs : qM := (yX8_runs, cX8_runs, 3, some .boolean)
def mX8_canChange : qM := (yX8_canChange, cX8_canChange, 3, some .boolean)
def mX8_isBoarded : qM := (yX8_isBoarded, cX8_isBoarded, 7, some .boolean)
def mX8_soonest : qM := (yX8_soonest, cX8_soonest, 10, some .int)
def mX8_findRest : qM := (yX8_findRest, cX8_findRest, 7, none)
def mX8_canGoOn : qM := (yX8_canGoOn, cX8_canGoOn, 7, some .boolean)
def mX8_canBoard : qM := (yX8_canBoard, cX8_canBoard, 6, some .boolean)
def mX8_leavesAt : qM := (yX8_leavesAt, cX8_leavesAt, 10, some .boolean)
def mX8_firstTrain : qM := (yX8_firstTrain, cX8_firstTrain, 7, some .int)
def mX8_finds : qM := (yX8_finds, cX8_finds, 11, some .boolean)
def mX8_boardOf : qM := (yX8_boardOf, cX8_boardOf, 8, some .int)
def mX8_restGoes : qM := (yX8_restGoes, cX8_restGoes, 11, some .boolean)
def mX8_way : qM := (yX8_way, cX8_way, 8, some .int)
def mX8_findDepartures : qM := (yX8_findDepartures, cX8_findDepartures, 7, none)
def mX8_isGone : qM := (yX8_isGone, cX8_isGone, 6, some .boolean)
def mX8_canDepart : qM := (yX8_canDepart, cX8_canDepart, 4, some .boolean)
def mX8_departures : qM := (yX8_departures, cX8_departures, 4, some .int)
def mX8_departure : qM := (yX8_departure, cX8_departure, 5, some .int)
def mJ6_bitCount_0f7a4 : qM := (yJ6_bitCount_0f7a4, cJ6_bitCount_0f7a4, 1, some .int)
def mJ9_max_7cf53 : qM := (yJ9_max_7cf53, cJ9_max_7cf53, 2, some .int)
def mJ9_min_7cf53 : qM := (yJ9_min_7cf53, cJ9_min_7cf53, 2, some .int)
def mJ7_fill_53178 : qM := (yJ7_fill_53178, cJ7_fill_53178, 4, none)
/-! fields -/
set_option maxRecDepth 20000 in
theorem in_X0 : ∀ w ∈ u_ws RX0 TX0 6, w ∈ wW := by
  intro w hw
  obtain ⟨k, hk, rfl⟩ := List.mem_map.mp hw
  have hk := List.mem_range.mp hk
  match k, hk with
  | 0, _ => exact wW_at 171 (by rfl) (by rfl)
  | 1, _ => exact wW_at 173 (by rfl) (by rfl)
  | 2, _ => exact wW_at 175 (by rfl) (by rfl)
  | 3, _ => exact wW_at 177 (by rfl) (by rfl)
  | 4, _ => exact wW_at 179 (by rfl) (by rfl)
  | 5, _ => exact wW_at 181 (by rfl) (by rfl)
theorem fg_X0_0 (i : Nat → Int32) (p : Nat → Option Nat) : (qflds 0 i p)[0]? = some (va_rf (p 0)) := rfl
theorem fs_X0_0 (a : Nat) (i : Nat → Int32) (p : Nat → Option Nat) : qflds 0 i (va_up p 0 (some a)) = (qflds 0 i p).set 0 (.ref a) := rfl
theorem ft_X0_0 : qTY 0 0 true := by
  intro C T N h
  cases h
  exact ⟨rfl, rfl, .array .int, by decide +kernel, fun x => ⟨rfl, rfl⟩⟩
theorem fn_X0_0 (i : Nat → Int32) (p : Nat → Option Nat) : 0 < (qflds 0 i p).length := by show 0 < 6; decide
theorem fg_X0_1 (i : Nat → Int32) (p : Nat → Option Nat) : (qflds 0 i p)[1]? = some (.int (i 1)) := rfl
theorem fs_X0_1 (v : Int32) (i : Nat → Int32) (p : Nat → Option Nat) : qflds 0 (upd i 1 v) p = (qflds 0 i p).set 1 (.int v) := rfl
theorem ft_X0_1 (C : String) (T : u_T) (N : Nat) (h : vwCl[0]? = some (C, T, N)) : (T 1).2.2.2 = false ∧ parseFieldDescriptor (T 1).2.2.1 = some .int := by cases h; exact ⟨rfl, by decide +kernel⟩
theorem fn_X0_1 (i : Nat → Int32) (p : Nat → Option Nat) : 1 < (qflds 0 i p).length := by show 1 < 6; decide
theorem fg_X0_2 (i : Nat → Int32) (p : Nat → Option Nat) : (qflds 0 i p)[2]? = some (.int (i 2)) := rfl
theorem fs_X0_2 (v : Int32) (i : Nat → Int32) (p : Nat → Option Nat) : qflds 0 (upd i 2 v) p = (qflds 0 i p).set 2 (.int v) := rfl
theorem ft_X0_2 (C : String) (T : u_T) (N : Nat) (h : vwCl[0]? = some (C, T, N)) : (T 2).2.2.2 = false ∧ parseFieldDescriptor (T 2).2.2.1 = some .int := by cases h; exact ⟨rfl, by decide +kernel⟩
theorem fn_X0_2 (i : Nat → Int32) (p : Nat → Option Nat) : 2 < (qflds 0 i p).length := by show 2 < 6; decide
theorem fg_X0_3 (i : Nat → Int32) (p : Nat → Option Nat) : (qflds 0 i p)[3]? = some (.int (i 3)) := rfl
theorem fs_X0_3 (v : Int32) (i : Nat → Int32) (p : Nat → Option Nat) : qflds 0 (upd i 3 v) p = (qflds 0 i p).set 3 (.int v) := rfl
theorem ft_X0_3 (C : String) (T : u_T) (N : Nat) (h : vwCl[0]? = some (C, T, N)) : (T 3).2.2.2 = false ∧ parseFieldDescriptor (T 3).2.2.1 = some .int := by cases h; exact ⟨rfl, by decide +kernel⟩
theorem fn_X0_3 (i : Nat → Int32) (p : Nat → Option Nat) : 3 < (qflds 0 i p).length := by show 3 < 6; decide
theorem fg_X0_4 (i : Nat → Int32) (p : Nat → Option Nat) : (qflds 0 i p)[4]? = some (va_rf (p 4)) := rfl
theorem fs_X0_4 (a : Nat) (i : Nat → Int32) (p : Nat → Option Nat) : qflds 0 i (va_up p 4 (some a)) = (qflds 0 i p).set 4 (.ref a) := rfl
theorem ft_X0_4 : qTY 0 4 true := by
  intro C T N h
  cases h
  exact ⟨rfl, rfl, .array .int, by decide +kernel, fun x => ⟨rfl, rfl⟩⟩
theorem fn_X0_4 (i : Nat → Int32) (p : Nat → Option Nat) : 4 < (qflds 0 i p).length := by show 4 < 6; decide
theorem fg_X0_5 (i : Nat → Int32) (p : Nat → Option Nat) : (qflds 0 i p)[5]? = some (va_rf (p 5)) := rfl
theorem fs_X0_5 (a : Nat) (i : Nat → Int32) (p : Nat → Option Nat) : qflds 0 i (va_up p 5 (some a)) = (qflds 0 i p).set 5 (.ref a) := rfl
theorem ft_X0_5 : qTY 0 5 true := by
  intro C T N h
  cases h
  exact ⟨rfl, rfl, .array .int, by decide +kernel, fun x => ⟨rfl, rfl⟩⟩
theorem fn_X0_5 (i : Nat → Int32) (p : Nat → Option Nat) : 5 < (qflds 0 i p).length := by show 5 < 6; decide
set_option maxRecDepth 20000 in
theorem in_X1 : ∀ w ∈ u_ws RX1 TX1 3, w ∈ wW := by
  intro w hw
  obtain ⟨k, hk, rfl⟩ := List.mem_map.mp hw
  have hk := List.mem_range.mp hk
  match k, hk with
  | 0, _ => exact wW_at 195 (by rfl) (by rfl)
  | 1, _ => exact wW_at 197 (by rfl) (by rfl)
  | 2, _ => exact wW_at 199 (by rfl) (by rfl)
theorem fg_X1_0 (i : Nat → Int32) (p : Nat → Option Nat) : (qflds 1 i p)[0]? = some (.int (i 0)) := rfl
theorem fs_X1_0 (v : Int32) (i : Nat → Int32) (p : Nat → Option Nat) : qflds 1 (upd i 0 v) p = (qflds 1 i p).set 0 (.int v) := rfl
theorem ft_X1_0 (C : String) (T : u_T) (N : Nat) (h : vwCl[1]? = some (C, T, N)) : (T 0).2.2.2 = false ∧ parseFieldDescriptor (T 0).2.2.1 = some .int := by cases h; exact ⟨rfl, by decide +kernel⟩
theorem fn_X1_0 (i : Nat → Int32) (p : Nat → Option Nat) : 0 < (qflds 1 i p).length := by show 0 < 3; decide
theorem fg_X1_1 (i : Nat → Int32) (p : Nat → Option Nat) : (qflds 1 i p)[1]? = some (va_rf (p 1)) := rfl
theorem fs_X1_1 (a : Nat) (i : Nat → Int32) (p : Nat → Option Nat) : qflds 1 i (va_up p 1 (some a)) = (qflds 1 i p).set 1 (.ref a) := rfl
theorem ft_X1_1 : qTY 1 1 true := by
  intro C T N h
  cases h
  exact ⟨rfl, rfl, .array .int, by decide +kernel, fun x => ⟨rfl, rfl⟩⟩
theorem fn_X1_1 (i : Nat → Int32) (p : Nat → Option Nat) : 1 < (qflds 1 i p).length := by show 1 < 3; decide
theorem fg_X1_2 (i : Nat → Int32) (p : Nat → Option Nat) : (qflds 1 i p)[2]? = some (va_rf (p 2)) := rfl
theorem fs_X1_2 (a : Nat) (i : Nat → Int32) (p : Nat → Option Nat) : qflds 1 i (va_up p 2 (some a)) = (qflds 1 i p).set 2 (.ref a) := rfl
theorem ft_X1_2 : qTY 1 2 true := by
  intro C T N h
  cases h
  exact ⟨rfl, rfl, .array .int, by decide +kernel, fun x => ⟨rfl, rfl⟩⟩
theorem fn_X1_2 (i : Nat → Int32) (p : Nat → Option Nat) : 2 < (qflds 1 i p).length := by show 2 < 3; decide
set_option maxRecDepth 20000 in
theorem in_X2 : ∀ w ∈ u_ws RX2 TX2 9, w ∈ wW := by
  intro w hw
  obtain ⟨k, hk, rfl⟩ := List.mem_map.mp hw
  have hk := List.mem_range.mp hk
  match k, hk with
  | 0, _ => exact wW_at 137 (by rfl) (by rfl)
  | 1, _ => exact wW_at 139 (by rfl) (by rfl)
  | 2, _ => exact wW_at 141 (by rfl) (by rfl)
  | 3, _ => exact wW_at 143 (by rfl) (by rfl)
  | 4, _ => exact wW_at 145 (by rfl) (by rfl)
  | 5, _ => exact wW_at 147 (by rfl) (by rfl)
  | 6, _ => exact wW_at 149 (by rfl) (by rfl)
  | 7, _ => exact wW_at 151 (by rfl) (by rfl)
  | 8, _ => exact wW_at 153 (by rfl) (by rfl)
theorem fg_X2_0 (i : Nat → Int32) (p : Nat → Option Nat) : (qflds 2 i p)[0]? = some (.int (i 0)) := rfl
theorem fs_X2_0 (v : Int32) (i : Nat → Int32) (p : Nat → Option Nat) : qflds 2 (upd i 0 v) p = (qflds 2 i p).set 0 (.int v) := rfl
theorem ft_X2_0 (C : String) (T : u_T) (N : Nat) (h : vwCl[2]? = some (C, T, N)) : (T 0).2.2.2 = false ∧ parseFieldDescriptor (T 0).2.2.1 = some .int := by cases h; exact ⟨rfl, by decide +kernel⟩
theorem fn_X2_0 (i : Nat → Int32) (p : Nat → Option Nat) : 0 < (qflds 2 i p).length := by show 0 < 9; decide
theorem fg_X2_1 (i : Nat → Int32) (p : Nat → Option Nat) : (qflds 2 i p)[1]? = some (va_rf (p 1)) := rfl
theorem fs_X2_1 (a : Nat) (i : Nat → Int32) (p : Nat → Option Nat) : qflds 2 i (va_up p 1 (some a)) = (qflds 2 i p).set 1 (.ref a) := rfl
theorem ft_X2_1 : qTY 2 1 true := by
  intro C T N h
  cases h
  exact ⟨rfl, rfl, .array .int, by decide +kernel, fun x => ⟨rfl, rfl⟩⟩
theorem fn_X2_1 (i : Nat → Int32) (p : Nat → Option Nat) : 1 < (qflds 2 i p).length := by show 1 < 9; decide
theorem fg_X2_2 (i : Nat → Int32) (p : Nat → Option Nat) : (qflds 2 i p)[2]? = some (.int (i 2)) := rfl
theorem fs_X2_2 (v : Int32) (i : Nat → Int32) (p : Nat → Option Nat) : qflds 2 (upd i 2 v) p = (qflds 2 i p).set 2 (.int v) := rfl
theorem ft_X2_2 (C : String) (T : u_T) (N : Nat) (h : vwCl[2]? = some (C, T, N)) : (T 2).2.2.2 = false ∧ parseFieldDescriptor (T 2).2.2.1 = some .int := by cases h; exact ⟨rfl, by decide +kernel⟩
theorem fn_X2_2 (i : Nat → Int32) (p : Nat → Option Nat) : 2 < (qflds 2 i p).length := by show 2 < 9; decide
theorem fg_X2_3 (i : Nat → Int32) (p : Nat → Option Nat) : (qflds 2 i p)[3]? = some (.int (i 3)) := rfl
theorem fs_X2_3 (v : Int32) (i : Nat → Int32) (p : Nat → Option Nat) : qflds 2 (upd i 3 v) p = (qflds 2 i p).set 3 (.int v) := rfl
theorem ft_X2_3 (C : String) (T : u_T) (N : Nat) (h : vwCl[2]? = some (C, T, N)) : (T 3).2.2.2 = false ∧ parseFieldDescriptor (T 3).2.2.1 = some .int := by cases h; exact ⟨rfl, by decide +kernel⟩
theorem fn_X2_3 (i : Nat → Int32) (p : Nat → Option Nat) : 3 < (qflds 2 i p).length := by show 3 < 9; decide
theorem fg_X2_4 (i : Nat → Int32) (p : Nat → Option Nat) : (qflds 2 i p)[4]? = some (.int (i 4)) := rfl
theorem fs_X2_4 (v : Int32) (i : Nat → Int32) (p : Nat → Option Nat) : qflds 2 (upd i 4 v) p = (qflds 2 i p).set 4 (.int v) := rfl
theorem ft_X2_4 (C : String) (T : u_T) (N : Nat) (h : vwCl[2]? = some (C, T, N)) : (T 4).2.2.2 = false ∧ parseFieldDescriptor (T 4).2.2.1 = some .int := by cases h; exact ⟨rfl, by decide +kernel⟩
theorem fn_X2_4 (i : Nat → Int32) (p : Nat → Option Nat) : 4 < (qflds 2 i p).length := by show 4 < 9; decide
theorem fg_X2_5 (i : Nat → Int32) (p : Nat → Option Nat) : (qflds 2 i p)[5]? = some (va_rf (p 5)) := rfl
theorem fs_X2_5 (a : Nat) (i : Nat → Int32) (p : Nat → Option Nat) : qflds 2 i (va_up p 5 (some a)) = (qflds 2 i p).set 5 (.ref a) := rfl
theorem ft_X2_5 : qTY 2 5 true := by
  intro C T N h
  cases h
  exact ⟨rfl, rfl, .array .int, by decide +kernel, fun x => ⟨rfl, rfl⟩⟩
theorem fn_X2_5 (i : Nat → Int32) (p : Nat → Option Nat) : 5 < (qflds 2 i p).length := by show 5 < 9; decide
theorem fg_X2_6 (i : Nat → Int32) (p : Nat → Option Nat) : (qflds 2 i p)[6]? = some (va_rf (p 6)) := rfl
theorem fs_X2_6 (a : Nat) (i : Nat → Int32) (p : Nat → Option Nat) : qflds 2 i (va_up p 6 (some a)) = (qflds 2 i p).set 6 (.ref a) := rfl
theorem ft_X2_6 : qTY 2 6 true := by
  intro C T N h
  cases h
  exact ⟨rfl, rfl, .array .int, by decide +kernel, fun x => ⟨rfl, rfl⟩⟩
theorem fn_X2_6 (i : Nat → Int32) (p : Nat → Option Nat) : 6 < (qflds 2 i p).length := by show 6 < 9; decide
theorem fg_X2_7 (i : Nat → Int32) (p : Nat → Option Nat) : (qflds 2 i p)[7]? = some (va_rf (p 7)) := rfl
theorem fs_X2_7 (a : Nat) (i : Nat → Int32) (p : Nat → Option Nat) : qflds 2 i (va_up p 7 (some a)) = (qflds 2 i p).set 7 (.ref a) := rfl
theorem ft_X2_7 : qTY 2 7 true := by
  intro C T N h
  cases h
  exact ⟨rfl, rfl, .array .int, by decide +kernel, fun x => ⟨rfl, rfl⟩⟩
theorem fn_X2_7 (i : Nat → Int32) (p : Nat → Option Nat) : 7 < (qflds 2 i p).length := by show 7 < 9; decide
theorem fg_X2_8 (i : Nat → Int32) (p : Nat → Option Nat) : (qflds 2 i p)[8]? = some (va_rf (p 8)) := rfl
theorem fs_X2_8 (a : Nat) (i : Nat → Int32) (p : Nat → Option Nat) : qflds 2 i (va_up p 8 (some a)) = (qflds 2 i p).set 8 (.ref a) := rfl
theorem ft_X2_8 : qTY 2 8 false := by
  intro C T N h
  cases h
  exact ⟨rfl, rfl, .array .int, by decide +kernel, fun x => ⟨rfl, rfl⟩⟩
theorem fn_X2_8 (i : Nat → Int32) (p : Nat → Option Nat) : 8 < (qflds 2 i p).length := by show 8 < 9; decide
set_option maxRecDepth 20000 in
theorem in_X3 : ∀ w ∈ u_ws RX3 TX3 1, w ∈ wW := by
  intro w hw
  obtain ⟨k, hk, rfl⟩ := List.mem_map.mp hw
  have hk := List.mem_range.mp hk
  match k, hk with
  | 0, _ => exact wW_at 109 (by rfl) (by rfl)
theorem fg_X3_0 (i : Nat → Int32) (p : Nat → Option Nat) : (qflds 3 i p)[0]? = some (va_rf (p 0)) := rfl
theorem fs_X3_0 (a : Nat) (i : Nat → Int32) (p : Nat → Option Nat) : qflds 3 i (va_up p 0 (some a)) = (qflds 3 i p).set 0 (.ref a) := rfl
theorem ft_X3_0 : qTY 3 0 true := by
  intro C T N h
  cases h
  exact ⟨rfl, rfl, .array .int, by decide +kernel, fun x => ⟨rfl, rfl⟩⟩
theorem fn_X3_0 (i : Nat → Int32) (p : Nat → Option Nat) : 0 < (qflds 3 i p).length := by show 0 < 1; decide
set_option maxRecDepth 20000 in
theorem in_X4 : ∀ w ∈ u_ws RX4 TX4 7, w ∈ wW := by
  intro w hw
  obtain ⟨k, hk, rfl⟩ := List.mem_map.mp hw
  have hk := List.mem_range.mp hk
  match k, hk with
  | 0, _ => exact wW_at 249 (by rfl) (by rfl)
  | 1, _ => exact wW_at 251 (by rfl) (by rfl)
  | 2, _ => exact wW_at 253 (by rfl) (by rfl)
  | 3, _ => exact wW_at 255 (by rfl) (by rfl)
  | 4, _ => exact wW_at 257 (by rfl) (by rfl)
  | 5, _ => exact wW_at 259 (by rfl) (by rfl)
  | 6, _ => exact wW_at 261 (by rfl) (by rfl)
theorem fg_X4_0 (i : Nat → Int32) (p : Nat → Option Nat) : (qflds 4 i p)[0]? = some (va_rf (p 0)) := rfl
theorem fs_X4_0 (a : Nat) (i : Nat → Int32) (p : Nat → Option Nat) : qflds 4 i (va_up p 0 (some a)) = (qflds 4 i p).set 0 (.ref a) := rfl
theorem ft_X4_0 : qTY 4 0 true := by
  intro C T N h
  cases h
  exact ⟨rfl, rfl, .array (.object "TrainBook$Train"), by decide +kernel, fun x => ⟨rfl, rfl⟩⟩
theorem fn_X4_0 (i : Nat → Int32) (p : Nat → Option Nat) : 0 < (qflds 4 i p).length := by show 0 < 7; decide
theorem fg_X4_1 (i : Nat → Int32) (p : Nat → Option Nat) : (qflds 4 i p)[1]? = some (va_rf (p 1)) := rfl
theorem fs_X4_1 (a : Nat) (i : Nat → Int32) (p : Nat → Option Nat) : qflds 4 i (va_up p 1 (some a)) = (qflds 4 i p).set 1 (.ref a) := rfl
theorem ft_X4_1 : qTY 4 1 true := by
  intro C T N h
  cases h
  exact ⟨rfl, rfl, .array .int, by decide +kernel, fun x => ⟨rfl, rfl⟩⟩
theorem fn_X4_1 (i : Nat → Int32) (p : Nat → Option Nat) : 1 < (qflds 4 i p).length := by show 1 < 7; decide
theorem fg_X4_2 (i : Nat → Int32) (p : Nat → Option Nat) : (qflds 4 i p)[2]? = some (va_rf (p 2)) := rfl
theorem fs_X4_2 (a : Nat) (i : Nat → Int32) (p : Nat → Option Nat) : qflds 4 i (va_up p 2 (some a)) = (qflds 4 i p).set 2 (.ref a) := rfl
theorem ft_X4_2 : qTY 4 2 true := by
  intro C T N h
  cases h
  exact ⟨rfl, rfl, .array .int, by decide +kernel, fun x => ⟨rfl, rfl⟩⟩
theorem fn_X4_2 (i : Nat → Int32) (p : Nat → Option Nat) : 2 < (qflds 4 i p).length := by show 2 < 7; decide
theorem fg_X4_3 (i : Nat → Int32) (p : Nat → Option Nat) : (qflds 4 i p)[3]? = some (va_rf (p 3)) := rfl
theorem fs_X4_3 (a : Nat) (i : Nat → Int32) (p : Nat → Option Nat) : qflds 4 i (va_up p 3 (some a)) = (qflds 4 i p).set 3 (.ref a) := rfl
theorem ft_X4_3 : qTY 4 3 true := by
  intro C T N h
  cases h
  exact ⟨rfl, rfl, .object "TrainBook$RowSearch", by decide +kernel, fun x => ⟨rfl, rfl⟩⟩
theorem fn_X4_3 (i : Nat → Int32) (p : Nat → Option Nat) : 3 < (qflds 4 i p).length := by show 3 < 7; decide
theorem fg_X4_4 (i : Nat → Int32) (p : Nat → Option Nat) : (qflds 4 i p)[4]? = some (va_rf (p 4)) := rfl
theorem fs_X4_4 (a : Nat) (i : Nat → Int32) (p : Nat → Option Nat) : qflds 4 i (va_up p 4 (some a)) = (qflds 4 i p).set 4 (.ref a) := rfl
theorem ft_X4_4 : qTY 4 4 true := by
  intro C T N h
  cases h
  exact ⟨rfl, rfl, .object "TrainBook$ColumnOrder", by decide +kernel, fun x => ⟨rfl, rfl⟩⟩
theorem fn_X4_4 (i : Nat → Int32) (p : Nat → Option Nat) : 4 < (qflds 4 i p).length := by show 4 < 7; decide
theorem fg_X4_5 (i : Nat → Int32) (p : Nat → Option Nat) : (qflds 4 i p)[5]? = some (va_rf (p 5)) := rfl
theorem fs_X4_5 (a : Nat) (i : Nat → Int32) (p : Nat → Option Nat) : qflds 4 i (va_up p 5 (some a)) = (qflds 4 i p).set 5 (.ref a) := rfl
theorem ft_X4_5 : qTY 4 5 true := by
  intro C T N h
  cases h
  exact ⟨rfl, rfl, .object "TrainBook$LanePlan", by decide +kernel, fun x => ⟨rfl, rfl⟩⟩
theorem fn_X4_5 (i : Nat → Int32) (p : Nat → Option Nat) : 5 < (qflds 4 i p).length := by show 5 < 7; decide
theorem fg_X4_6 (i : Nat → Int32) (p : Nat → Option Nat) : (qflds 4 i p)[6]? = some (.int (i 6)) := rfl
theorem fs_X4_6 (v : Int32) (i : Nat → Int32) (p : Nat → Option Nat) : qflds 4 (upd i 6 v) p = (qflds 4 i p).set 6 (.int v) := rfl
theorem ft_X4_6 (C : String) (T : u_T) (N : Nat) (h : vwCl[4]? = some (C, T, N)) : (T 6).2.2.2 = false ∧ parseFieldDescriptor (T 6).2.2.1 = some .int := by cases h; exact ⟨rfl, by decide +kernel⟩
theorem fn_X4_6 (i : Nat → Int32) (p : Nat → Option Nat) : 6 < (qflds 4 i p).length := by show 6 < 7; decide
set_option maxRecDepth 20000 in
theorem in_X5 : ∀ w ∈ u_ws RX5 TX5 6, w ∈ wW := by
  intro w hw
  obtain ⟨k, hk, rfl⟩ := List.mem_map.mp hw
  have hk := List.mem_range.mp hk
  match k, hk with
  | 0, _ => exact wW_at 229 (by rfl) (by rfl)
  | 1, _ => exact wW_at 231 (by rfl) (by rfl)
  | 2, _ => exact wW_at 233 (by rfl) (by rfl)
  | 3, _ => exact wW_at 235 (by rfl) (by rfl)
  | 4, _ => exact wW_at 237 (by rfl) (by rfl)
  | 5, _ => exact wW_at 239 (by rfl) (by rfl)
theorem fg_X5_0 (i : Nat → Int32) (p : Nat → Option Nat) : (qflds 5 i p)[0]? = some (.int (i 0)) := rfl
theorem fs_X5_0 (v : Int32) (i : Nat → Int32) (p : Nat → Option Nat) : qflds 5 (upd i 0 v) p = (qflds 5 i p).set 0 (.int v) := rfl
theorem ft_X5_0 (C : String) (T : u_T) (N : Nat) (h : vwCl[5]? = some (C, T, N)) : (T 0).2.2.2 = false ∧ parseFieldDescriptor (T 0).2.2.1 = some .int := by cases h; exact ⟨rfl, by decide +kernel⟩
theorem fn_X5_0 (i : Nat → Int32) (p : Nat → Option Nat) : 0 < (qflds 5 i p).length := by show 0 < 6; decide
theorem fg_X5_1 (i : Nat → Int32) (p : Nat → Option Nat) : (qflds 5 i p)[1]? = some (.int (i 1)) := rfl
theorem fs_X5_1 (v : Int32) (i : Nat → Int32) (p : Nat → Option Nat) : qflds 5 (upd i 1 v) p = (qflds 5 i p).set 1 (.int v) := rfl
theorem ft_X5_1 (C : String) (T : u_T) (N : Nat) (h : vwCl[5]? = some (C, T, N)) : (T 1).2.2.2 = false ∧ parseFieldDescriptor (T 1).2.2.1 = some .int := by cases h; exact ⟨rfl, by decide +kernel⟩
theorem fn_X5_1 (i : Nat → Int32) (p : Nat → Option Nat) : 1 < (qflds 5 i p).length := by show 1 < 6; decide
theorem fg_X5_2 (i : Nat → Int32) (p : Nat → Option Nat) : (qflds 5 i p)[2]? = some (va_rf (p 2)) := rfl
theorem fs_X5_2 (a : Nat) (i : Nat → Int32) (p : Nat → Option Nat) : qflds 5 i (va_up p 2 (some a)) = (qflds 5 i p).set 2 (.ref a) := rfl
theorem ft_X5_2 : qTY 5 2 true := by
  intro C T N h
  cases h
  exact ⟨rfl, rfl, .array .int, by decide +kernel, fun x => ⟨rfl, rfl⟩⟩
theorem fn_X5_2 (i : Nat → Int32) (p : Nat → Option Nat) : 2 < (qflds 5 i p).length := by show 2 < 6; decide
theorem fg_X5_3 (i : Nat → Int32) (p : Nat → Option Nat) : (qflds 5 i p)[3]? = some (va_rf (p 3)) := rfl
theorem fs_X5_3 (a : Nat) (i : Nat → Int32) (p : Nat → Option Nat) : qflds 5 i (va_up p 3 (some a)) = (qflds 5 i p).set 3 (.ref a) := rfl
theorem ft_X5_3 : qTY 5 3 true := by
  intro C T N h
  cases h
  exact ⟨rfl, rfl, .array .int, by decide +kernel, fun x => ⟨rfl, rfl⟩⟩
theorem fn_X5_3 (i : Nat → Int32) (p : Nat → Option Nat) : 3 < (qflds 5 i p).length := by show 3 < 6; decide
theorem fg_X5_4 (i : Nat → Int32) (p : Nat → Option Nat) : (qflds 5 i p)[4]? = some (va_rf (p 4)) := rfl
theorem fs_X5_4 (a : Nat) (i : Nat → Int32) (p : Nat → Option Nat) : qflds 5 i (va_up p 4 (some a)) = (qflds 5 i p).set 4 (.ref a) := rfl
theorem ft_X5_4 : qTY 5 4 true := by
  intro C T N h
  cases h
  exact ⟨rfl, rfl, .array .int, by decide +kernel, fun x => ⟨rfl, rfl⟩⟩
theorem fn_X5_4 (i : Nat → Int32) (p : Nat → Option Nat) : 4 < (qflds 5 i p).length := by show 4 < 6; decide
theorem fg_X5_5 (i : Nat → Int32) (p : Nat → Option Nat) : (qflds 5 i p)[5]? = some (va_rf (p 5)) := rfl
theorem fs_X5_5 (a : Nat) (i : Nat → Int32) (p : Nat → Option Nat) : qflds 5 i (va_up p 5 (some a)) = (qflds 5 i p).set 5 (.ref a) := rfl
theorem ft_X5_5 : qTY 5 5 true := by
  intro C T N h
  cases h
  exact ⟨rfl, rfl, .array .int, by decide +kernel, fun x => ⟨rfl, rfl⟩⟩
theorem fn_X5_5 (i : Nat → Int32) (p : Nat → Option Nat) : 5 < (qflds 5 i p).length := by show 5 < 6; decide
set_option maxRecDepth 20000 in
theorem in_X6 : ∀ w ∈ u_ws RX6 TX6 16, w ∈ wW := by
  intro w hw
  obtain ⟨k, hk, rfl⟩ := List.mem_map.mp hw
  have hk := List.mem_range.mp hk
  match k, hk with
  | 0, _ => exact wW_at 287 (by rfl) (by rfl)
  | 1, _ => exact wW_at 289 (by rfl) (by rfl)
  | 2, _ => exact wW_at 291 (by rfl) (by rfl)
  | 3, _ => exact wW_at 293 (by rfl) (by rfl)
  | 4, _ => exact wW_at 295 (by rfl) (by rfl)
  | 5, _ => exact wW_at 297 (by rfl) (by rfl)
  | 6, _ => exact wW_at 299 (by rfl) (by rfl)
  | 7, _ => exact wW_at 301 (by rfl) (by rfl)
  | 8, _ => exact wW_at 303 (by rfl) (by rfl)
  | 9, _ => exact wW_at 305 (by rfl) (by rfl)
  | 10, _ => exact wW_at 307 (by rfl) (by rfl)
  | 11, _ => exact wW_at 309 (by rfl) (by rfl)
  | 12, _ => exact wW_at 311 (by rfl) (by rfl)
  | 13, _ => exact wW_at 313 (by rfl) (by rfl)
  | 14, _ => exact wW_at 315 (by rfl) (by rfl)
  | 15, _ => exact wW_at 317 (by rfl) (by rfl)
  | k + 16, h => exact absurd h (by omega)
theorem fg_X6_0 (i : Nat → Int32) (p : Nat → Option Nat) : (qflds 6 i p)[0]? = some (va_rf (p 0)) := rfl
theorem fs_X6_0 (a : Nat) (i : Nat → Int32) (p : Nat → Option Nat) : qflds 6 i (va_up p 0 (some a)) = (qflds 6 i p).set 0 (.ref a) := rfl
theorem ft_X6_0 : qTY 6 0 false := by
  intro C T N h
  cases h
  exact ⟨rfl, rfl, .array (.object "TrainBook$Train"), by decide +kernel, fun x => ⟨rfl, rfl⟩⟩
theorem fn_X6_0 (i : Nat → Int32) (p : Nat → Option Nat) : 0 < (qflds 6 i p).length := by show 0 < 16; decide
theorem fg_X6_1 (i : Nat → Int32) (p : Nat → Option Nat) : (qflds 6 i p)[1]? = some (.int (i 1)) := rfl
theorem fs_X6_1 (v : Int32) (i : Nat → Int32) (p : Nat → Option Nat) : qflds 6 (upd i 1 v) p = (qflds 6 i p).set 1 (.int v) := rfl
theorem ft_X6_1 (C : String) (T : u_T) (N : Nat) (h : vwCl[6]? = some (C, T, N)) : (T 1).2.2.2 = false ∧ parseFieldDescriptor (T 1).2.2.1 = some .int := by cases h; exact ⟨rfl, by decide +kernel⟩
theorem fn_X6_1 (i : Nat → Int32) (p : Nat → Option Nat) : 1 < (qflds 6 i p).length := by show 1 < 16; decide
theorem fg_X6_2 (i : Nat → Int32) (p : Nat → Option Nat) : (qflds 6 i p)[2]? = some (.int (i 2)) := rfl
theorem fs_X6_2 (v : Int32) (i : Nat → Int32) (p : Nat → Option Nat) : qflds 6 (upd i 2 v) p = (qflds 6 i p).set 2 (.int v) := rfl
theorem ft_X6_2 (C : String) (T : u_T) (N : Nat) (h : vwCl[6]? = some (C, T, N)) : (T 2).2.2.2 = false ∧ parseFieldDescriptor (T 2).2.2.1 = some .int := by cases h; exact ⟨rfl, by decide +kernel⟩
theorem fn_X6_2 (i : Nat → Int32) (p : Nat → Option Nat) : 2 < (qflds 6 i p).length := by show 2 < 16; decide
theorem fg_X6_3 (i : Nat → Int32) (p : Nat → Option Nat) : (qflds 6 i p)[3]? = some (.int (i 3)) := rfl
theorem fs_X6_3 (v : Int32) (i : Nat → Int32) (p : Nat → Option Nat) : qflds 6 (upd i 3 v) p = (qflds 6 i p).set 3 (.int v) := rfl
theorem ft_X6_3 (C : String) (T : u_T) (N : Nat) (h : vwCl[6]? = some (C, T, N)) : (T 3).2.2.2 = false ∧ parseFieldDescriptor (T 3).2.2.1 = some .int := by cases h; exact ⟨rfl, by decide +kernel⟩
theorem fn_X6_3 (i : Nat → Int32) (p : Nat → Option Nat) : 3 < (qflds 6 i p).length := by show 3 < 16; decide
theorem fg_X6_4 (i : Nat → Int32) (p : Nat → Option Nat) : (qflds 6 i p)[4]? = some (va_rf (p 4)) := rfl
theorem fs_X6_4 (a : Nat) (i : Nat → Int32) (p : Nat → Option Nat) : qflds 6 i (va_up p 4 (some a)) = (qflds 6 i p).set 4 (.ref a) := rfl
theorem ft_X6_4 : qTY 6 4 true := by
  intro C T N h
  cases h
  exact ⟨rfl, rfl, .array .int, by decide +kernel, fun x => ⟨rfl, rfl⟩⟩
theorem fn_X6_4 (i : Nat → Int32) (p : Nat → Option Nat) : 4 < (qflds 6 i p).length := by show 4 < 16; decide
theorem fg_X6_5 (i : Nat → Int32) (p : Nat → Option Nat) : (qflds 6 i p)[5]? = some (va_rf (p 5)) := rfl
theorem fs_X6_5 (a : Nat) (i : Nat → Int32) (p : Nat → Option Nat) : qflds 6 i (va_up p 5 (some a)) = (qflds 6 i p).set 5 (.ref a) := rfl
theorem ft_X6_5 : qTY 6 5 true := by
  intro C T N h
  cases h
  exact ⟨rfl, rfl, .array .int, by decide +kernel, fun x => ⟨rfl, rfl⟩⟩
theorem fn_X6_5 (i : Nat → Int32) (p : Nat → Option Nat) : 5 < (qflds 6 i p).length := by show 5 < 16; decide
theorem fg_X6_6 (i : Nat → Int32) (p : Nat → Option Nat) : (qflds 6 i p)[6]? = some (.int (i 6)) := rfl
theorem fs_X6_6 (v : Int32) (i : Nat → Int32) (p : Nat → Option Nat) : qflds 6 (upd i 6 v) p = (qflds 6 i p).set 6 (.int v) := rfl
theorem ft_X6_6 (C : String) (T : u_T) (N : Nat) (h : vwCl[6]? = some (C, T, N)) : (T 6).2.2.2 = false ∧ parseFieldDescriptor (T 6).2.2.1 = some .int := by cases h; exact ⟨rfl, by decide +kernel⟩
theorem fn_X6_6 (i : Nat → Int32) (p : Nat → Option Nat) : 6 < (qflds 6 i p).length := by show 6 < 16; decide
theorem fg_X6_7 (i : Nat → Int32) (p : Nat → Option Nat) : (qflds 6 i p)[7]? = some (.int (i 7)) := rfl
theorem fs_X6_7 (v : Int32) (i : Nat → Int32) (p : Nat → Option Nat) : qflds 6 (upd i 7 v) p = (qflds 6 i p).set 7 (.int v) := rfl
theorem ft_X6_7 (C : String) (T : u_T) (N : Nat) (h : vwCl[6]? = some (C, T, N)) : (T 7).2.2.2 = false ∧ parseFieldDescriptor (T 7).2.2.1 = some .int := by cases h; exact ⟨rfl, by decide +kernel⟩
theorem fn_X6_7 (i : Nat → Int32) (p : Nat → Option Nat) : 7 < (qflds 6 i p).length := by show 7 < 16; decide
theorem fg_X6_8 (i : Nat → Int32) (p : Nat → Option Nat) : (qflds 6 i p)[8]? = some (va_rf (p 8)) := rfl
theorem fs_X6_8 (a : Nat) (i : Nat → Int32) (p : Nat → Option Nat) : qflds 6 i (va_up p 8 (some a)) = (qflds 6 i p).set 8 (.ref a) := rfl
theorem ft_X6_8 : qTY 6 8 true := by
  intro C T N h
  cases h
  exact ⟨rfl, rfl, .array .int, by decide +kernel, fun x => ⟨rfl, rfl⟩⟩
theorem fn_X6_8 (i : Nat → Int32) (p : Nat → Option Nat) : 8 < (qflds 6 i p).length := by show 8 < 16; decide
theorem fg_X6_9 (i : Nat → Int32) (p : Nat → Option Nat) : (qflds 6 i p)[9]? = some (va_rf (p 9)) := rfl
theorem fs_X6_9 (a : Nat) (i : Nat → Int32) (p : Nat → Option Nat) : qflds 6 i (va_up p 9 (some a)) = (qflds 6 i p).set 9 (.ref a) := rfl
theorem ft_X6_9 : qTY 6 9 true := by
  intro C T N h
  cases h
  exact ⟨rfl, rfl, .array .int, by decide +kernel, fun x => ⟨rfl, rfl⟩⟩
theorem fn_X6_9 (i : Nat → Int32) (p : Nat → Option Nat) : 9 < (qflds 6 i p).length := by show 9 < 16; decide
theorem fg_X6_10 (i : Nat → Int32) (p : Nat → Option Nat) : (qflds 6 i p)[10]? = some (va_rf (p 10)) := rfl
theorem fs_X6_10 (a : Nat) (i : Nat → Int32) (p : Nat → Option Nat) : qflds 6 i (va_up p 10 (some a)) = (qflds 6 i p).set 10 (.ref a) := rfl
theorem ft_X6_10 : qTY 6 10 true := by
  intro C T N h
  cases h
  exact ⟨rfl, rfl, .array .int, by decide +kernel, fun x => ⟨rfl, rfl⟩⟩
theorem fn_X6_10 (i : Nat → Int32) (p : Nat → Option Nat) : 10 < (qflds 6 i p).length := by show 10 < 16; decide
theorem fg_X6_11 (i : Nat → Int32) (p : Nat → Option Nat) : (qflds 6 i p)[11]? = some (va_rf (p 11)) := rfl
theorem fs_X6_11 (a : Nat) (i : Nat → Int32) (p : Nat → Option Nat) : qflds 6 i (va_up p 11 (some a)) = (qflds 6 i p).set 11 (.ref a) := rfl
theorem ft_X6_11 : qTY 6 11 true := by
  intro C T N h
  cases h
  exact ⟨rfl, rfl, .array .int, by decide +kernel, fun x => ⟨rfl, rfl⟩⟩
theorem fn_X6_11 (i : Nat → Int32) (p : Nat → Option Nat) : 11 < (qflds 6 i p).length := by show 11 < 16; decide
theorem fg_X6_12 (i : Nat → Int32) (p : Nat → Option Nat) : (qflds 6 i p)[12]? = some (va_rf (p 12)) := rfl
theorem fs_X6_12 (a : Nat) (i : Nat → Int32) (p : Nat → Option Nat) : qflds 6 i (va_up p 12 (some a)) = (qflds 6 i p).set 12 (.ref a) := rfl
theorem ft_X6_12 : qTY 6 12 true := by
  intro C T N h
  cases h
  exact ⟨rfl, rfl, .array .int, by decide +kernel, fun x => ⟨rfl, rfl⟩⟩
theorem fn_X6_12 (i : Nat → Int32) (p : Nat → Option Nat) : 12 < (qflds 6 i p).length := by show 12 < 16; decide
theorem fg_X6_13 (i : Nat → Int32) (p : Nat → Option Nat) : (qflds 6 i p)[13]? = some (.int (i 13)) := rfl
theorem fs_X6_13 (v : Int32) (i : Nat → Int32) (p : Nat → Option Nat) : qflds 6 (upd i 13 v) p = (qflds 6 i p).set 13 (.int v) := rfl
theorem ft_X6_13 (C : String) (T : u_T) (N : Nat) (h : vwCl[6]? = some (C, T, N)) : (T 13).2.2.2 = false ∧ parseFieldDescriptor (T 13).2.2.1 = some .int := by cases h; exact ⟨rfl, by decide +kernel⟩
theorem fn_X6_13 (i : Nat → Int32) (p : Nat → Option Nat) : 13 < (qflds 6 i p).length := by show 13 < 16; decide
theorem fg_X6_14 (i : Nat → Int32) (p : Nat → Option Nat) : (qflds 6 i p)[14]? = some (va_rf (p 14)) := rfl
theorem fs_X6_14 (a : Nat) (i : Nat → Int32) (p : Nat → Option Nat) : qflds 6 i (va_up p 14 (some a)) = (qflds 6 i p).set 14 (.ref a) := rfl
theorem ft_X6_14 : qTY 6 14 true := by
  intro C T N h
  cases h
  exact ⟨rfl, rfl, .array .int, by decide +kernel, fun x => ⟨rfl, rfl⟩⟩
theorem fn_X6_14 (i : Nat → Int32) (p : Nat → Option Nat) : 14 < (qflds 6 i p).length := by show 14 < 16; decide
theorem fg_X6_15 (i : Nat → Int32) (p : Nat → Option Nat) : (qflds 6 i p)[15]? = some (.int (i 15)) := rfl
theorem fs_X6_15 (v : Int32) (i : Nat → Int32) (p : Nat → Option Nat) : qflds 6 (upd i 15 v) p = (qflds 6 i p).set 15 (.int v) := rfl
theorem ft_X6_15 (C : String) (T : u_T) (N : Nat) (h : vwCl[6]? = some (C, T, N)) : (T 15).2.2.2 = false ∧ parseFieldDescriptor (T 15).2.2.1 = some .int := by cases h; exact ⟨rfl, by decide +kernel⟩
theorem fn_X6_15 (i : Nat → Int32) (p : Nat → Option Nat) : 15 < (qflds 6 i p).length := by show 15 < 16; decide
set_option maxRecDepth 20000 in
theorem in_X7 : ∀ w ∈ u_ws RX7 TX7 6, w ∈ wW := by
  intro w hw
  obtain ⟨k, hk, rfl⟩ := List.mem_map.mp hw
  have hk := List.mem_range.mp hk
  match k, hk with
  | 0, _ => exact wW_at 327 (by rfl) (by rfl)
  | 1, _ => exact wW_at 329 (by rfl) (by rfl)
  | 2, _ => exact wW_at 331 (by rfl) (by rfl)
  | 3, _ => exact wW_at 333 (by rfl) (by rfl)
  | 4, _ => exact wW_at 335 (by rfl) (by rfl)
  | 5, _ => exact wW_at 337 (by rfl) (by rfl)
theorem fg_X7_0 (i : Nat → Int32) (p : Nat → Option Nat) : (qflds 7 i p)[0]? = some (va_rf (p 0)) := rfl
theorem fs_X7_0 (a : Nat) (i : Nat → Int32) (p : Nat → Option Nat) : qflds 7 i (va_up p 0 (some a)) = (qflds 7 i p).set 0 (.ref a) := rfl
theorem ft_X7_0 : qTY 7 0 true := by
  intro C T N h
  cases h
  exact ⟨rfl, rfl, .array (.object "TrainBook$Train"), by decide +kernel, fun x => ⟨rfl, rfl⟩⟩
theorem fn_X7_0 (i : Nat → Int32) (p : Nat → Option Nat) : 0 < (qflds 7 i p).length := by show 0 < 6; decide
theorem fg_X7_1 (i : Nat → Int32) (p : Nat → Option Nat) : (qflds 7 i p)[1]? = some (va_rf (p 1)) := rfl
theorem fs_X7_1 (a : Nat) (i : Nat → Int32) (p : Nat → Option Nat) : qflds 7 i (va_up p 1 (some a)) = (qflds 7 i p).set 1 (.ref a) := rfl
theorem ft_X7_1 : qTY 7 1 true := by
  intro C T N h
  cases h
  exact ⟨rfl, rfl, .object "TrainBook$SignBook", by decide +kernel, fun x => ⟨rfl, rfl⟩⟩
theorem fn_X7_1 (i : Nat → Int32) (p : Nat → Option Nat) : 1 < (qflds 7 i p).length := by show 1 < 6; decide
theorem fg_X7_2 (i : Nat → Int32) (p : Nat → Option Nat) : (qflds 7 i p)[2]? = some (va_rf (p 2)) := rfl
theorem fs_X7_2 (a : Nat) (i : Nat → Int32) (p : Nat → Option Nat) : qflds 7 i (va_up p 2 (some a)) = (qflds 7 i p).set 2 (.ref a) := rfl
theorem ft_X7_2 : qTY 7 2 true := by
  intro C T N h
  cases h
  exact ⟨rfl, rfl, .object "TrainBook$Table", by decide +kernel, fun x => ⟨rfl, rfl⟩⟩
theorem fn_X7_2 (i : Nat → Int32) (p : Nat → Option Nat) : 2 < (qflds 7 i p).length := by show 2 < 6; decide
theorem fg_X7_3 (i : Nat → Int32) (p : Nat → Option Nat) : (qflds 7 i p)[3]? = some (va_rf (p 3)) := rfl
theorem fs_X7_3 (a : Nat) (i : Nat → Int32) (p : Nat → Option Nat) : qflds 7 i (va_up p 3 (some a)) = (qflds 7 i p).set 3 (.ref a) := rfl
theorem ft_X7_3 : qTY 7 3 true := by
  intro C T N h
  cases h
  exact ⟨rfl, rfl, .object "TrainBook$WayFinder", by decide +kernel, fun x => ⟨rfl, rfl⟩⟩
theorem fn_X7_3 (i : Nat → Int32) (p : Nat → Option Nat) : 3 < (qflds 7 i p).length := by show 3 < 6; decide
theorem fg_X7_4 (i : Nat → Int32) (p : Nat → Option Nat) : (qflds 7 i p)[4]? = some (.int (i 4)) := rfl
theorem fs_X7_4 (v : Int32) (i : Nat → Int32) (p : Nat → Option Nat) : qflds 7 (upd i 4 v) p = (qflds 7 i p).set 4 (.int v) := rfl
theorem ft_X7_4 (C : String) (T : u_T) (N : Nat) (h : vwCl[7]? = some (C, T, N)) : (T 4).2.2.2 = false ∧ parseFieldDescriptor (T 4).2.2.1 = some .int := by cases h; exact ⟨rfl, by decide +kernel⟩
theorem fn_X7_4 (i : Nat → Int32) (p : Nat → Option Nat) : 4 < (qflds 7 i p).length := by show 4 < 6; decide
theorem fg_X7_5 (i : Nat → Int32) (p : Nat → Option Nat) : (qflds 7 i p)[5]? = some (.int (i 5)) := rfl
theorem fs_X7_5 (v : Int32) (i : Nat → Int32) (p : Nat → Option Nat) : qflds 7 (upd i 5 v) p = (qflds 7 i p).set 5 (.int v) := rfl
theorem ft_X7_5 (C : String) (T : u_T) (N : Nat) (h : vwCl[7]? = some (C, T, N)) : (T 5).2.2.2 = false ∧ parseFieldDescriptor (T 5).2.2.1 = some .int := by cases h; exact ⟨rfl, by decide +kernel⟩
theorem fn_X7_5 (i : Nat → Int32) (p : Nat → Option Nat) : 5 < (qflds 7 i p).length := by show 5 < 6; decide
set_option maxRecDepth 20000 in
theorem in_X8 : ∀ w ∈ u_ws RX8 TX8 35, w ∈ wW := by
  intro w hw
  obtain ⟨k, hk, rfl⟩ := List.mem_map.mp hw
  have hk := List.mem_range.mp hk
  match k, hk with
  | 0, _ => exact wW_at 815 (by rfl) (by rfl)
  | 1, _ => exact wW_at 817 (by rfl) (by rfl)
  | 2, _ => exact wW_at 819 (by rfl) (by rfl)
  | 3, _ => exact wW_at 821 (by rfl) (by rfl)
  | 4, _ => exact wW_at 823 (by rfl) (by rfl)
  | 5, _ => exact wW_at 825 (by rfl) (by rfl)
  | 6, _ => exact wW_at 827 (by rfl) (by rfl)
  | 7, _ => exact wW_at 829 (by rfl) (by rfl)
  | 8, _ => exact wW_at 831 (by rfl) (by rfl)
  | 9, _ => exact wW_at 833 (by rfl) (by rfl)
  | 10, _ => exact wW_at 835 (by rfl) (by rfl)
  | 11, _ => exact wW_at 837 (by rfl) (by rfl)
  | 12, _ => exact wW_at 839 (by rfl) (by rfl)
  | 13, _ => exact wW_at 841 (by rfl) (by rfl)
  | 14, _ => exact wW_at 843 (by rfl) (by rfl)
  | 15, _ => exact wW_at 845 (by rfl) (by rfl)
  | 16, _ => exact wW_at 847 (by rfl) (by rfl)
  | 17, _ => exact wW_at 849 (by rfl) (by rfl)
  | 18, _ => exact wW_at 851 (by rfl) (by rfl)
  | 19, _ => exact wW_at 853 (by rfl) (by rfl)
  | 20, _ => exact wW_at 855 (by rfl) (by rfl)
  | 21, _ => exact wW_at 857 (by rfl) (by rfl)
  | 22, _ => exact wW_at 859 (by rfl) (by rfl)
  | 23, _ => exact wW_at 861 (by rfl) (by rfl)
  | 24, _ => exact wW_at 863 (by rfl) (by rfl)
  | 25, _ => exact wW_at 865 (by rfl) (by rfl)
  | 26, _ => exact wW_at 867 (by rfl) (by rfl)
  | 27, _ => exact wW_at 869 (by rfl) (by rfl)
  | 28, _ => exact wW_at 871 (by rfl) (by rfl)
  | 29, _ => exact wW_at 873 (by rfl) (by rfl)
  | 30, _ => exact wW_at 875 (by rfl) (by rfl)
  | 31, _ => exact wW_at 877 (by rfl) (by rfl)
  | 32, _ => exact wW_at 879 (by rfl) (by rfl)
  | 33, _ => exact wW_at 881 (by rfl) (by rfl)
  | 34, _ => exact wW_at 883 (by rfl) (by rfl)
  | k + 35, h => exact absurd h (by omega)
theorem fg_X8_0 (i : Nat → Int32) (p : Nat → Option Nat) : (qflds 8 i p)[0]? = some (.int (i 0)) := rfl
theorem fs_X8_0 (v : Int32) (i : Nat → Int32) (p : Nat → Option Nat) : qflds 8 (upd i 0 v) p = (qflds 8 i p).set 0 (.int v) := rfl
theorem ft_X8_0 (C : String) (T : u_T) (N : Nat) (h : vwCl[8]? = some (C, T, N)) : (T 0).2.2.2 = false ∧ parseFieldDescriptor (T 0).2.2.1 = some .int := by cases h; exact ⟨rfl, by decide +kernel⟩
theorem fn_X8_0 (i : Nat → Int32) (p : Nat → Option Nat) : 0 < (qflds 8 i p).length := by show 0 < 35; decide
theorem fg_X8_1 (i : Nat → Int32) (p : Nat → Option Nat) : (qflds 8 i p)[1]? = some (.int (i 1)) := rfl
theorem fs_X8_1 (v : Int32) (i : Nat → Int32) (p : Nat → Option Nat) : qflds 8 (upd i 1 v) p = (qflds 8 i p).set 1 (.int v) := rfl
theorem ft_X8_1 (C : String) (T : u_T) (N : Nat) (h : vwCl[8]? = some (C, T, N)) : (T 1).2.2.2 = false ∧ parseFieldDescriptor (T 1).2.2.1 = some .int := by cases h; exact ⟨rfl, by decide +kernel⟩
theorem fn_X8_1 (i : Nat → Int32) (p : Nat → Option Nat) : 1 < (qflds 8 i p).length := by show 1 < 35; decide
theorem fg_X8_2 (i : Nat → Int32) (p : Nat → Option Nat) : (qflds 8 i p)[2]? = some (.int (i 2)) := rfl
theorem fs_X8_2 (v : Int32) (i : Nat → Int32) (p : Nat → Option Nat) : qflds 8 (upd i 2 v) p = (qflds 8 i p).set 2 (.int v) := rfl
theorem ft_X8_2 (C : String) (T : u_T) (N : Nat) (h : vwCl[8]? = some (C, T, N)) : (T 2).2.2.2 = false ∧ parseFieldDescriptor (T 2).2.2.1 = some .int := by cases h; exact ⟨rfl, by decide +kernel⟩
theorem fn_X8_2 (i : Nat → Int32) (p : Nat → Option Nat) : 2 < (qflds 8 i p).length := by show 2 < 35; decide
theorem fg_X8_3 (i : Nat → Int32) (p : Nat → Option Nat) : (qflds 8 i p)[3]? = some (va_rf (p 3)) := rfl
theorem fs_X8_3 (a : Nat) (i : Nat → Int32) (p : Nat → Option Nat) : qflds 8 i (va_up p 3 (some a)) = (qflds 8 i p).set 3 (.ref a) := rfl
theorem ft_X8_3 : qTY 8 3 true := by
  intro C T N h
  cases h
  exact ⟨rfl, rfl, .array .int, by decide +kernel, fun x => ⟨rfl, rfl⟩⟩
theorem fn_X8_3 (i : Nat → Int32) (p : Nat → Option Nat) : 3 < (qflds 8 i p).length := by show 3 < 35; decide
theorem fg_X8_4 (i : Nat → Int32) (p : Nat → Option Nat) : (qflds 8 i p)[4]? = some (va_rf (p 4)) := rfl
theorem fs_X8_4 (a : Nat) (i : Nat → Int32) (p : Nat → Option Nat) : qflds 8 i (va_up p 4 (some a)) = (qflds 8 i p).set 4 (.ref a) := rfl
theorem ft_X8_4 : qTY 8 4 true := by
  intro C T N h
  cases h
  exact ⟨rfl, rfl, .array .int, by decide +kernel, fun x => ⟨rfl, rfl⟩⟩
theorem fn_X8_4 (i : Nat → Int32) (p : Nat → Option Nat) : 4 < (qflds 8 i p).length := by show 4 < 35; decide
theorem fg_X8_5 (i : Nat → Int32) (p : Nat → Option Nat) : (qflds 8 i p)[5]? = some (va_rf (p 5)) := rfl
theorem fs_X8_5 (a : Nat) (i : Nat → Int32) (p : Nat → Option Nat) : qflds 8 i (va_up p 5 (some a)) = (qflds 8 i p).set 5 (.ref a) := rfl
theorem ft_X8_5 : qTY 8 5 true := by
  intro C T N h
  cases h
  exact ⟨rfl, rfl, .array .int, by decide +kernel, fun x => ⟨rfl, rfl⟩⟩
theorem fn_X8_5 (i : Nat → Int32) (p : Nat → Option Nat) : 5 < (qflds 8 i p).length := by show 5 < 35; decide
theorem fg_X8_6 (i : Nat → Int32) (p : Nat → Option Nat) : (qflds 8 i p)[6]? = some (va_rf (p 6)) := rfl
theorem fs_X8_6 (a : Nat) (i : Nat → Int32) (p : Nat → Option Nat) : qflds 8 i (va_up p 6 (some a)) = (qflds 8 i p).set 6 (.ref a) := rfl
theorem ft_X8_6 : qTY 8 6 true := by
  intro C T N h
  cases h
  exact ⟨rfl, rfl, .array .int, by decide +kernel, fun x => ⟨rfl, rfl⟩⟩
theorem fn_X8_6 (i : Nat → Int32) (p : Nat → Option Nat) : 6 < (qflds 8 i p).length := by show 6 < 35; decide
theorem fg_X8_7 (i : Nat → Int32) (p : Nat → Option Nat) : (qflds 8 i p)[7]? = some (va_rf (p 7)) := rfl
theorem fs_X8_7 (a : Nat) (i : Nat → Int32) (p : Nat → Option Nat) : qflds 8 i (va_up p 7 (some a)) = (qflds 8 i p).set 7 (.ref a) := rfl
theorem ft_X8_7 : qTY 8 7 true := by
  intro C T N h
  cases h
  exact ⟨rfl, rfl, .array .int, by decide +kernel, fun x => ⟨rfl, rfl⟩⟩
theorem fn_X8_7 (i : Nat → Int32) (p : Nat → Option Nat) : 7 < (qflds 8 i p).length := by show 7 < 35; decide
theorem fg_X8_8 (i : Nat → Int32) (p : Nat → Option Nat) : (qflds 8 i p)[8]? = some (va_rf (p 8)) := rfl
theorem fs_X8_8 (a : Nat) (i : Nat → Int32) (p : Nat → Option Nat) : qflds 8 i (va_up p 8 (some a)) = (qflds 8 i p).set 8 (.ref a) := rfl
theorem ft_X8_8 : qTY 8 8 true := by
  intro C T N h
  cases h
  exact ⟨rfl, rfl, .array .int, by decide +kernel, fun x => ⟨rfl, rfl⟩⟩
theorem fn_X8_8 (i : Nat → Int32) (p : Nat → Option Nat) : 8 < (qflds 8 i p).length := by show 8 < 35; decide
theorem fg_X8_9 (i : Nat → Int32) (p : Nat → Option Nat) : (qflds 8 i p)[9]? = some (.int (i 9)) := rfl
theorem fs_X8_9 (v : Int32) (i : Nat → Int32) (p : Nat → Option Nat) : qflds 8 (upd i 9 v) p = (qflds 8 i p).set 9 (.int v) := rfl
theorem ft_X8_9 (C : String) (T : u_T) (N : Nat) (h : vwCl[8]? = some (C, T, N)) : (T 9).2.2.2 = false ∧ parseFieldDescriptor (T 9).2.2.1 = some .int := by cases h; exact ⟨rfl, by decide +kernel⟩
theorem fn_X8_9 (i : Nat → Int32) (p : Nat → Option Nat) : 9 < (qflds 8 i p).length := by show 9 < 35; decide
theorem fg_X8_10 (i : Nat → Int32) (p : Nat → Option Nat) : (qflds 8 i p)[10]? = some (.int (i 10)) := rfl
theorem fs_X8_10 (v : Int32) (i : Nat → Int32) (p : Nat → Option Nat) : qflds 8 (upd i 10 v) p = (qflds 8 i p).set 10 (.int v) := rfl
theorem ft_X8_10 (C : String) (T : u_T) (N : Nat) (h : vwCl[8]? = some (C, T, N)) : (T 10).2.2.2 = false ∧ parseFieldDescriptor (T 10).2.2.1 = some .int := by cases h; exact ⟨rfl, by decide +kernel⟩
theorem fn_X8_10 (i : Nat → Int32) (p : Nat → Option Nat) : 10 < (qflds 8 i p).length := by show 10 < 35; decide
theorem fg_X8_11 (i : Nat → Int32) (p : Nat → Option Nat) : (qflds 8 i p)[11]? = some (va_rf (p 11)) := rfl
theorem fs_X8_11 (a : Nat) (i : Nat → Int32) (p : Nat → Option Nat) : qflds 8 i (va_up p 11 (some a)) = (qflds 8 i p).set 11 (.ref a) := rfl
theorem ft_X8_11 : qTY 8 11 true := by
  intro C T N h
  cases h
  exact ⟨rfl, rfl, .array .int, by decide +kernel, fun x => ⟨rfl, rfl⟩⟩
theorem fn_X8_11 (i : Nat → Int32) (p : Nat → Option Nat) : 11 < (qflds 8 i p).length := by show 11 < 35; decide
theorem fg_X8_12 (i : Nat → Int32) (p : Nat → Option Nat) : (qflds 8 i p)[12]? = some (va_rf (p 12)) := rfl
theorem fs_X8_12 (a : Nat) (i : Nat → Int32) (p : Nat → Option Nat) : qflds 8 i (va_up p 12 (some a)) = (qflds 8 i p).set 12 (.ref a) := rfl
theorem ft_X8_12 : qTY 8 12 true := by
  intro C T N h
  cases h
  exact ⟨rfl, rfl, .array .int, by decide +kernel, fun x => ⟨rfl, rfl⟩⟩
theorem fn_X8_12 (i : Nat → Int32) (p : Nat → Option Nat) : 12 < (qflds 8 i p).length := by show 12 < 35; decide
theorem fg_X8_13 (i : Nat → Int32) (p : Nat → Option Nat) : (qflds 8 i p)[13]? = some (va_rf (p 13)) := rfl
theorem fs_X8_13 (a : Nat) (i : Nat → Int32) (p : Nat → Option Nat) : qflds 8 i (va_up p 13 (some a)) = (qflds 8 i p).set 13 (.ref a) := rfl
theorem ft_X8_13 : qTY 8 13 true := by
  intro C T N h
  cases h
  exact ⟨rfl, rfl, .array .int, by decide +kernel, fun x => ⟨rfl, rfl⟩⟩
theorem fn_X8_13 (i : Nat → Int32) (p : Nat → Option Nat) : 13 < (qflds 8 i p).length := by show 13 < 35; decide
theorem fg_X8_14 (i : Nat → Int32) (p : Nat → Option Nat) : (qflds 8 i p)[14]? = some (va_rf (p 14)) := rfl
theorem fs_X8_14 (a : Nat) (i : Nat → Int32) (p : Nat → Option Nat) : qflds 8 i (va_up p 14 (some a)) = (qflds 8 i p).set 14 (.ref a) := rfl
theorem ft_X8_14 : qTY 8 14 true := by
  intro C T N h
  cases h
  exact ⟨rfl, rfl, .array .int, by decide +kernel, fun x => ⟨rfl, rfl⟩⟩
theorem fn_X8_14 (i : Nat → Int32) (p : Nat → Option Nat) : 14 < (qflds 8 i p).length := by show 14 < 35; decide
theorem fg_X8_15 (i : Nat → Int32) (p : Nat → Option Nat) : (qflds 8 i p)[15]? = some (va_rf (p 15)) := rfl
theorem fs_X8_15 (a : Nat) (i : Nat → Int32) (p : Nat → Option Nat) : qflds 8 i (va_up p 15 (some a)) = (qflds 8 i p).set 15 (.ref a) := rfl
theorem ft_X8_15 : qTY 8 15 true := by
  intro C T N h
  cases h
  exact ⟨rfl, rfl, .array .int, by decide +kernel, fun x => ⟨rfl, rfl⟩⟩
theorem fn_X8_15 (i : Nat → Int32) (p : Nat → Option Nat) : 15 < (qflds 8 i p).length := by show 15 < 35; decide
theorem fg_X8_16 (i : Nat → Int32) (p : Nat → Option Nat) : (qflds 8 i p)[16]? = some (va_rf (p 16)) := rfl
theorem fs_X8_16 (a : Nat) (i : Nat → Int32) (p : Nat → Option Nat) : qflds 8 i (va_up p 16 (some a)) = (qflds 8 i p).set 16 (.ref a) := rfl
theorem ft_X8_16 : qTY 8 16 true := by
  intro C T N h
  cases h
  exact ⟨rfl, rfl, .array .int, by decide +kernel, fun x => ⟨rfl, rfl⟩⟩
theorem fn_X8_16 (i : Nat → Int32) (p : Nat → Option Nat) : 16 < (qflds 8 i p).length := by show 16 < 35; decide
theorem fg_X8_17 (i : Nat → Int32) (p : Nat → Option Nat) : (qflds 8 i p)[17]? = some (va_rf (p 17)) := rfl
theorem fs_X8_17 (a : Nat) (i : Nat → Int32) (p : Nat → Option Nat) : qflds 8 i (va_up p 17 (some a)) = (qflds 8 i p).set 17 (.ref a) := rfl
theorem ft_X8_17 : qTY 8 17 true := by
  intro C T N h
  cases h
  exact ⟨rfl, rfl, .array .int, by decide +kernel, fun x => ⟨rfl, rfl⟩⟩
theorem fn_X8_17 (i : Nat → Int32) (p : Nat → Option Nat) : 17 < (qflds 8 i p).length := by show 17 < 35; decide
theorem fg_X8_18 (i : Nat → Int32) (p : Nat → Option Nat) : (qflds 8 i p)[18]? = some (va_rf (p 18)) := rfl
theorem fs_X8_18 (a : Nat) (i : Nat → Int32) (p : Nat → Option Nat) : qflds 8 i (va_up p 18 (some a)) = (qflds 8 i p).set 18 (.ref a) := rfl
theorem ft_X8_18 : qTY 8 18 true := by
  intro C T N h
  cases h
  exact ⟨rfl, rfl, .array .int, by decide +kernel, fun x => ⟨rfl, rfl⟩⟩
theorem fn_X8_18 (i : Nat → Int32) (p : Nat → Option Nat) : 18 < (qflds 8 i p).length := by show 18 < 35; decide
theorem fg_X8_19 (i : Nat → Int32) (p : Nat → Option Nat) : (qflds 8 i p)[19]? = some (va_rf (p 19)) := rfl
theorem fs_X8_19 (a : Nat) (i : Nat → Int32) (p : Nat → Option Nat) : qflds 8 i (va_up p 19 (some a)) = (qflds 8 i p).set 19 (.ref a) := rfl
theorem ft_X8_19 : qTY 8 19 true := by
  intro C T N h
  cases h
  exact ⟨rfl, rfl, .array .int, by decide +kernel, fun x => ⟨rfl, rfl⟩⟩
theorem fn_X8_19 (i : Nat → Int32) (p : Nat → Option Nat) : 19 < (qflds 8 i p).length := by show 19 < 35; decide
theorem fg_X8_20 (i : Nat → Int32) (p : Nat → Option Nat) : (qflds 8 i p)[20]? = some (.int (i 20)) := rfl
theorem fs_X8_20 (v : Int32) (i : Nat → Int32) (p : Nat → Option Nat) : qflds 8 (upd i 20 v) p = (qflds 8 i p).set 20 (.int v) := rfl
theorem ft_X8_20 (C : String) (T : u_T) (N : Nat) (h : vwCl[8]? = some (C, T, N)) : (T 20).2.2.2 = false ∧ parseFieldDescriptor (T 20).2.2.1 = some .int := by cases h; exact ⟨rfl, by decide +kernel⟩
theorem fn_X8_20 (i : Nat → Int32) (p : Nat → Option Nat) : 20 < (qflds 8 i p).length := by show 20 < 35; decide
theorem fg_X8_21 (i : Nat → Int32) (p : Nat → Option Nat) : (qflds 8 i p)[21]? = some (va_rf (p 21)) := rfl
theorem fs_X8_21 (a : Nat) (i : Nat → Int32) (p : Nat → Option Nat) : qflds 8 i (va_up p 21 (some a)) = (qflds 8 i p).set 21 (.ref a) := rfl
theorem ft_X8_21 : qTY 8 21 true := by
  intro C T N h
  cases h
  exact ⟨rfl, rfl, .array .int, by decide +kernel, fun x => ⟨rfl, rfl⟩⟩
theorem fn_X8_21 (i : Nat → Int32) (p : Nat → Option Nat) : 21 < (qflds 8 i p).length := by show 21 < 35; decide
theorem fg_X8_22 (i : Nat → Int32) (p : Nat → Option Nat) : (qflds 8 i p)[22]? = some (va_rf (p 22)) := rfl
theorem fs_X8_22 (a : Nat) (i : Nat → Int32) (p : Nat → Option Nat) : qflds 8 i (va_up p 22 (some a)) = (qflds 8 i p).set 22 (.ref a) := rfl
theorem ft_X8_22 : qTY 8 22 true := by
  intro C T N h
  cases h
  exact ⟨rfl, rfl, .array .int, by decide +kernel, fun x => ⟨rfl, rfl⟩⟩
theorem fn_X8_22 (i : Nat → Int32) (p : Nat → Option Nat) : 22 < (qflds 8 i p).length := by show 22 < 35; decide
theorem fg_X8_23 (i : Nat → Int32) (p : Nat → Option Nat) : (qflds 8 i p)[23]? = some (va_rf (p 23)) := rfl
theorem fs_X8_23 (a : Nat) (i : Nat → Int32) (p : Nat → Option Nat) : qflds 8 i (va_up p 23 (some a)) = (qflds 8 i p).set 23 (.ref a) := rfl
theorem ft_X8_23 : qTY 8 23 true := by
  intro C T N h
  cases h
  exact ⟨rfl, rfl, .array .boolean, by decide +kernel, fun x => ⟨rfl, rfl⟩⟩
theorem fn_X8_23 (i : Nat → Int32) (p : Nat → Option Nat) : 23 < (qflds 8 i p).length := by show 23 < 35; decide
theorem fg_X8_24 (i : Nat → Int32) (p : Nat → Option Nat) : (qflds 8 i p)[24]? = some (va_rf (p 24)) := rfl
theorem fs_X8_24 (a : Nat) (i : Nat → Int32) (p : Nat → Option Nat) : qflds 8 i (va_up p 24 (some a)) = (qflds 8 i p).set 24 (.ref a) := rfl
theorem ft_X8_24 : qTY 8 24 true := by
  intro C T N h
  cases h
  exact ⟨rfl, rfl, .array .boolean, by decide +kernel, fun x => ⟨rfl, rfl⟩⟩
theorem fn_X8_24 (i : Nat → Int32) (p : Nat → Option Nat) : 24 < (qflds 8 i p).length := by show 24 < 35; decide
theorem fg_X8_25 (i : Nat → Int32) (p : Nat → Option Nat) : (qflds 8 i p)[25]? = some (.int (i 25)) := rfl
theorem fs_X8_25 (v : Int32) (i : Nat → Int32) (p : Nat → Option Nat) : qflds 8 (upd i 25 v) p = (qflds 8 i p).set 25 (.int v) := rfl
theorem ft_X8_25 (C : String) (T : u_T) (N : Nat) (h : vwCl[8]? = some (C, T, N)) : (T 25).2.2.2 = false ∧ parseFieldDescriptor (T 25).2.2.1 = some .int := by cases h; exact ⟨rfl, by decide +kernel⟩
theorem fn_X8_25 (i : Nat → Int32) (p : Nat → Option Nat) : 25 < (qflds 8 i p).length := by show 25 < 35; decide
theorem fg_X8_26 (i : Nat → Int32) (p : Nat → Option Nat) : (qflds 8 i p)[26]? = some (.int (i 26)) := rfl
theorem fs_X8_26 (v : Int32) (i : Nat → Int32) (p : Nat → Option Nat) : qflds 8 (upd i 26 v) p = (qflds 8 i p).set 26 (.int v) := rfl
theorem ft_X8_26 (C : String) (T : u_T) (N : Nat) (h : vwCl[8]? = some (C, T, N)) : (T 26).2.2.2 = false ∧ parseFieldDescriptor (T 26).2.2.1 = some .int := by cases h; exact ⟨rfl, by decide +kernel⟩
theorem fn_X8_26 (i : Nat → Int32) (p : Nat → Option Nat) : 26 < (qflds 8 i p).length := by show 26 < 35; decide
theorem fg_X8_27 (i : Nat → Int32) (p : Nat → Option Nat) : (qflds 8 i p)[27]? = some (va_rf (p 27)) := rfl
theorem fs_X8_27 (a : Nat) (i : Nat → Int32) (p : Nat → Option Nat) : qflds 8 i (va_up p 27 (some a)) = (qflds 8 i p).set 27 (.ref a) := rfl
theorem ft_X8_27 : qTY 8 27 true := by
  intro C T N h
  cases h
  exact ⟨rfl, rfl, .array .int, by decide +kernel, fun x => ⟨rfl, rfl⟩⟩
theorem fn_X8_27 (i : Nat → Int32) (p : Nat → Option Nat) : 27 < (qflds 8 i p).length := by show 27 < 35; decide
theorem fg_X8_28 (i : Nat → Int32) (p : Nat → Option Nat) : (qflds 8 i p)[28]? = some (va_rf (p 28)) := rfl
theorem fs_X8_28 (a : Nat) (i : Nat → Int32) (p : Nat → Option Nat) : qflds 8 i (va_up p 28 (some a)) = (qflds 8 i p).set 28 (.ref a) := rfl
theorem ft_X8_28 : qTY 8 28 true := by
  intro C T N h
  cases h
  exact ⟨rfl, rfl, .array .int, by decide +kernel, fun x => ⟨rfl, rfl⟩⟩
theorem fn_X8_28 (i : Nat → Int32) (p : Nat → Option Nat) : 28 < (qflds 8 i p).length := by show 28 < 35; decide
theorem fg_X8_29 (i : Nat → Int32) (p : Nat → Option Nat) : (qflds 8 i p)[29]? = some (va_rf (p 29)) := rfl
theorem fs_X8_29 (a : Nat) (i : Nat → Int32) (p : Nat → Option Nat) : qflds 8 i (va_up p 29 (some a)) = (qflds 8 i p).set 29 (.ref a) := rfl
theorem ft_X8_29 : qTY 8 29 true := by
  intro C T N h
  cases h
  exact ⟨rfl, rfl, .array .int, by decide +kernel, fun x => ⟨rfl, rfl⟩⟩
theorem fn_X8_29 (i : Nat → Int32) (p : Nat → Option Nat) : 29 < (qflds 8 i p).length := by show 29 < 35; decide
theorem fg_X8_30 (i : Nat → Int32) (p : Nat → Option Nat) : (qflds 8 i p)[30]? = some (va_rf (p 30)) := rfl
theorem fs_X8_30 (a : Nat) (i : Nat → Int32) (p : Nat → Option Nat) : qflds 8 i (va_up p 30 (some a)) = (qflds 8 i p).set 30 (.ref a) := rfl
theorem ft_X8_30 : qTY 8 30 true := by
  intro C T N h
  cases h
  exact ⟨rfl, rfl, .array .boolean, by decide +kernel, fun x => ⟨rfl, rfl⟩⟩
theorem fn_X8_30 (i : Nat → Int32) (p : Nat → Option Nat) : 30 < (qflds 8 i p).length := by show 30 < 35; decide
theorem fg_X8_31 (i : Nat → Int32) (p : Nat → Option Nat) : (qflds 8 i p)[31]? = some (va_rf (p 31)) := rfl
theorem fs_X8_31 (a : Nat) (i : Nat → Int32) (p : Nat → Option Nat) : qflds 8 i (va_up p 31 (some a)) = (qflds 8 i p).set 31 (.ref a) := rfl
theorem ft_X8_31 : qTY 8 31 true := by
  intro C T N h
  cases h
  exact ⟨rfl, rfl, .array .boolean, by decide +kernel, fun x => ⟨rfl, rfl⟩⟩
theorem fn_X8_31 (i : Nat → Int32) (p : Nat → Option Nat) : 31 < (qflds 8 i p).length := by show 31 < 35; decide
theorem fg_X8_32 (i : Nat → Int32) (p : Nat → Option Nat) : (qflds 8 i p)[32]? = some (va_rf (p 32)) := rfl
theorem fs_X8_32 (a : Nat) (i : Nat → Int32) (p : Nat → Option Nat) : qflds 8 i (va_up p 32 (some a)) = (qflds 8 i p).set 32 (.ref a) := rfl
theorem ft_X8_32 : qTY 8 32 true := by
  intro C T N h
  cases h
  exact ⟨rfl, rfl, .array .boolean, by decide +kernel, fun x => ⟨rfl, rfl⟩⟩
theorem fn_X8_32 (i : Nat → Int32) (p : Nat → Option Nat) : 32 < (qflds 8 i p).length := by show 32 < 35; decide
theorem fg_X8_33 (i : Nat → Int32) (p : Nat → Option Nat) : (qflds 8 i p)[33]? = some (.int (i 33)) := rfl
theorem fs_X8_33 (v : Int32) (i : Nat → Int32) (p : Nat → Option Nat) : qflds 8 (upd i 33 v) p = (qflds 8 i p).set 33 (.int v) := rfl
theorem ft_X8_33 (C : String) (T : u_T) (N : Nat) (h : vwCl[8]? = some (C, T, N)) : (T 33).2.2.2 = false ∧ parseFieldDescriptor (T 33).2.2.1 = some .int := by cases h; exact ⟨rfl, by decide +kernel⟩
theorem fn_X8_33 (i : Nat → Int32) (p : Nat → Option Nat) : 33 < (qflds 8 i p).length := by show 33 < 35; decide
theorem fg_X8_34 (i : Nat → Int32) (p : Nat → Option Nat) : (qflds 8 i p)[34]? = some (va_rf (p 34)) := rfl
theorem fs_X8_34 (a : Nat) (i : Nat → Int32) (p : Nat → Option Nat) : qflds 8 i (va_up p 34 (some a)) = (qflds 8 i p).set 34 (.ref a) := rfl
theorem ft_X8_34 : qTY 8 34 true := by
  intro C T N h
  cases h
  exact ⟨rfl, rfl, .array .int, by decide +kernel, fun x => ⟨rfl, rfl⟩⟩
theorem fn_X8_34 (i : Nat → Int32) (p : Nat → Option Nat) : 34 < (qflds 8 i p).length := by show 34 < 35; decide
set_option maxRecDepth 20000 in
theorem fl_X3_11 : qFL RX3 11 3 0 := ⟨RX3, TX3, 1, tyX3, rfl, by decide, (wW_at 108 (by rfl) (by rfl)), in_X3, tyX3_ok, nmX3⟩
set_option maxRecDepth 20000 in
theorem fl_X2_41 : qFL RX2 41 2 0 := ⟨RX2, TX2, 9, tyX2, rfl, by decide, (wW_at 126 (by rfl) (by rfl)), in_X2, tyX2_ok, nmX2⟩
set_option maxRecDepth 20000 in
theorem fl_X4_67 : qFL RX4 67 2 0 := ⟨RX2, TX2, 9, tyX2, rfl, by decide, (wW_at 127 (by rfl) (by rfl)), in_X2, tyX2_ok, nmX2⟩
set_option maxRecDepth 20000 in
theorem fl_X2_11 : qFL RX2 11 2 1 := ⟨RX2, TX2, 9, tyX2, rfl, by decide, (wW_at 128 (by rfl) (by rfl)), in_X2, tyX2_ok, nmX2⟩
set_option maxRecDepth 20000 in
theorem fl_X4_70 : qFL RX4 70 2 1 := ⟨RX2, TX2, 9, tyX2, rfl, by decide, (wW_at 129 (by rfl) (by rfl)), in_X2, tyX2_ok, nmX2⟩
set_option maxRecDepth 20000 in
theorem fl_X2_62 : qFL RX2 62 2 2 := ⟨RX2, TX2, 9, tyX2, rfl, by decide, (wW_at 130 (by rfl) (by rfl)), in_X2, tyX2_ok, nmX2⟩
set_option maxRecDepth 20000 in
theorem fl_X2_48 : qFL RX2 48 2 3 := ⟨RX2, TX2, 9, tyX2, rfl, by decide, (wW_at 131 (by rfl) (by rfl)), in_X2, tyX2_ok, nmX2⟩
set_option maxRecDepth 20000 in
theorem fl_X2_85 : qFL RX2 85 2 4 := ⟨RX2, TX2, 9, tyX2, rfl, by decide, (wW_at 132 (by rfl) (by rfl)), in_X2, tyX2_ok, nmX2⟩
set_option maxRecDepth 20000 in
theorem fl_X2_15 : qFL RX2 15 2 5 := ⟨RX2, TX2, 9, tyX2, rfl, by decide, (wW_at 133 (by rfl) (by rfl)), in_X2, tyX2_ok, nmX2⟩
set_option maxRecDepth 20000 in
theorem fl_X2_18 : qFL RX2 18 2 6 := ⟨RX2, TX2, 9, tyX2, rfl, by decide, (wW_at 134 (by rfl) (by rfl)), in_X2, tyX2_ok, nmX2⟩
set_option maxRecDepth 20000 in
theorem fl_X2_21 : qFL RX2 21 2 7 := ⟨RX2, TX2, 9, tyX2, rfl, by decide, (wW_at 135 (by rfl) (by rfl)), in_X2, tyX2_ok, nmX2⟩
set_option maxRecDepth 20000 in
theorem fl_X2_24 : qFL RX2 24 2 8 := ⟨RX2, TX2, 9, tyX2, rfl, by decide, (wW_at 136 (by rfl) (by rfl)), in_X2, tyX2_ok, nmX2⟩
set_option maxRecDepth 20000 in
theorem fl_X0_9 : qFL RX0 9 0 0 := ⟨RX0, TX0, 6, tyX0, rfl, by decide, (wW_at 162 (by rfl) (by rfl)), in_X0, tyX0_ok, nmX0⟩
set_option maxRecDepth 20000 in
theorem fl_X4_73 : qFL RX4 73 0 0 := ⟨RX0, TX0, 6, tyX0, rfl, by decide, (wW_at 163 (by rfl) (by rfl)), in_X0, tyX0_ok, nmX0⟩
set_option maxRecDepth 20000 in
theorem fl_X0_39 : qFL RX0 39 0 1 := ⟨RX0, TX0, 6, tyX0, rfl, by decide, (wW_at 164 (by rfl) (by rfl)), in_X0, tyX0_ok, nmX0⟩
set_option maxRecDepth 20000 in
theorem fl_X4_92 : qFL RX4 92 0 1 := ⟨RX0, TX0, 6, tyX0, rfl, by decide, (wW_at 165 (by rfl) (by rfl)), in_X0, tyX0_ok, nmX0⟩
set_option maxRecDepth 20000 in
theorem fl_X0_25 : qFL RX0 25 0 2 := ⟨RX0, TX0, 6, tyX0, rfl, by decide, (wW_at 166 (by rfl) (by rfl)), in_X0, tyX0_ok, nmX0⟩
set_option maxRecDepth 20000 in
theorem fl_X4_95 : qFL RX4 95 0 2 := ⟨RX0, TX0, 6, tyX0, rfl, by decide, (wW_at 167 (by rfl) (by rfl)), in_X0, tyX0_ok, nmX0⟩
set_option maxRecDepth 20000 in
theorem fl_X0_21 : qFL RX0 21 0 3 := ⟨RX0, TX0, 6, tyX0, rfl, by decide, (wW_at 168 (by rfl) (by rfl)), in_X0, tyX0_ok, nmX0⟩
set_option maxRecDepth 20000 in
theorem fl_X0_15 : qFL RX0 15 0 4 := ⟨RX0, TX0, 6, tyX0, rfl, by decide, (wW_at 169 (by rfl) (by rfl)), in_X0, tyX0_ok, nmX0⟩
set_option maxRecDepth 20000 in
theorem fl_X0_18 : qFL RX0 18 0 5 := ⟨RX0, TX0, 6, tyX0, rfl, by decide, (wW_at 170 (by rfl) (by rfl)), in_X0, tyX0_ok, nmX0⟩
set_option maxRecDepth 20000 in
theorem fl_X1_18 : qFL RX1 18 1 0 := ⟨RX1, TX1, 3, tyX1, rfl, by decide, (wW_at 190 (by rfl) (by rfl)), in_X1, tyX1_ok, nmX1⟩
set_option maxRecDepth 20000 in
theorem fl_X4_102 : qFL RX4 102 1 0 := ⟨RX1, TX1, 3, tyX1, rfl, by decide, (wW_at 191 (by rfl) (by rfl)), in_X1, tyX1_ok, nmX1⟩
set_option maxRecDepth 20000 in
theorem fl_X1_9 : qFL RX1 9 1 1 := ⟨RX1, TX1, 3, tyX1, rfl, by decide, (wW_at 192 (by rfl) (by rfl)), in_X1, tyX1_ok, nmX1⟩
set_option maxRecDepth 20000 in
theorem fl_X4_105 : qFL RX4 105 1 1 := ⟨RX1, TX1, 3, tyX1, rfl, by decide, (wW_at 193 (by rfl) (by rfl)), in_X1, tyX1_ok, nmX1⟩
set_option maxRecDepth 20000 in
theorem fl_X1_15 : qFL RX1 15 1 2 := ⟨RX1, TX1, 3, tyX1, rfl, by decide, (wW_at 194 (by rfl) (by rfl)), in_X1, tyX1_ok, nmX1⟩
set_option maxRecDepth 20000 in
theorem fl_X7_48 : qFL RX7 48 5 0 := ⟨RX5, TX5, 6, tyX5, rfl, by decide, (wW_at 210 (by rfl) (by rfl)), in_X5, tyX5_ok, nmX5⟩
set_option maxRecDepth 20000 in
theorem fl_X5_36 : qFL RX5 36 5 0 := ⟨RX5, TX5, 6, tyX5, rfl, by decide, (wW_at 211 (by rfl) (by rfl)), in_X5, tyX5_ok, nmX5⟩
set_option maxRecDepth 20000 in
theorem fl_X5_30 : qFL RX5 30 5 1 := ⟨RX5, TX5, 6, tyX5, rfl, by decide, (wW_at 212 (by rfl) (by rfl)), in_X5, tyX5_ok, nmX5⟩
set_option maxRecDepth 20000 in
theorem fl_X2_31 : qFL RX2 31 5 1 := ⟨RX5, TX5, 6, tyX5, rfl, by decide, (wW_at 213 (by rfl) (by rfl)), in_X5, tyX5_ok, nmX5⟩
set_option maxRecDepth 20000 in
theorem fl_X7_66 : qFL RX7 66 5 1 := ⟨RX5, TX5, 6, tyX5, rfl, by decide, (wW_at 214 (by rfl) (by rfl)), in_X5, tyX5_ok, nmX5⟩
set_option maxRecDepth 20000 in
theorem fl_X6_111 : qFL RX6 111 5 1 := ⟨RX5, TX5, 6, tyX5, rfl, by decide, (wW_at 215 (by rfl) (by rfl)), in_X5, tyX5_ok, nmX5⟩
set_option maxRecDepth 20000 in
theorem fl_X4_83 : qFL RX4 83 5 1 := ⟨RX5, TX5, 6, tyX5, rfl, by decide, (wW_at 216 (by rfl) (by rfl)), in_X5, tyX5_ok, nmX5⟩
set_option maxRecDepth 20000 in
theorem fl_X5_9 : qFL RX5 9 5 2 := ⟨RX5, TX5, 6, tyX5, rfl, by decide, (wW_at 217 (by rfl) (by rfl)), in_X5, tyX5_ok, nmX5⟩
set_option maxRecDepth 20000 in
theorem fl_X2_77 : qFL RX2 77 5 2 := ⟨RX5, TX5, 6, tyX5, rfl, by decide, (wW_at 218 (by rfl) (by rfl)), in_X5, tyX5_ok, nmX5⟩
set_option maxRecDepth 20000 in
theorem fl_X6_88 : qFL RX6 88 5 2 := ⟨RX5, TX5, 6, tyX5, rfl, by decide, (wW_at 219 (by rfl) (by rfl)), in_X5, tyX5_ok, nmX5⟩
set_option maxRecDepth 20000 in
theorem fl_X4_112 : qFL RX4 112 5 2 := ⟨RX5, TX5, 6, tyX5, rfl, by decide, (wW_at 220 (by rfl) (by rfl)), in_X5, tyX5_ok, nmX5⟩
set_option maxRecDepth 20000 in
theorem fl_X5_15 : qFL RX5 15 5 3 := ⟨RX5, TX5, 6, tyX5, rfl, by decide, (wW_at 221 (by rfl) (by rfl)), in_X5, tyX5_ok, nmX5⟩
set_option maxRecDepth 20000 in
theorem fl_X6_94 : qFL RX6 94 5 3 := ⟨RX5, TX5, 6, tyX5, rfl, by decide, (wW_at 222 (by rfl) (by rfl)), in_X5, tyX5_ok, nmX5⟩
set_option maxRecDepth 20000 in
theorem fl_X4_86 : qFL RX4 86 5 3 := ⟨RX5, TX5, 6, tyX5, rfl, by decide, (wW_at 223 (by rfl) (by rfl)), in_X5, tyX5_ok, nmX5⟩
set_option maxRecDepth 20000 in
theorem fl_X5_18 : qFL RX5 18 5 4 := ⟨RX5, TX5, 6, tyX5, rfl, by decide, (wW_at 224 (by rfl) (by rfl)), in_X5, tyX5_ok, nmX5⟩
set_option maxRecDepth 20000 in
theorem fl_X6_91 : qFL RX6 91 5 4 := ⟨RX5, TX5, 6, tyX5, rfl, by decide, (wW_at 225 (by rfl) (by rfl)), in_X5, tyX5_ok, nmX5⟩
set_option maxRecDepth 20000 in
theorem fl_X4_89 : qFL RX4 89 5 4 := ⟨RX5, TX5, 6, tyX5, rfl, by decide, (wW_at 226 (by rfl) (by rfl)), in_X5, tyX5_ok, nmX5⟩
set_option maxRecDepth 20000 in
theorem fl_X5_21 : qFL RX5 21 5 5 := ⟨RX5, TX5, 6, tyX5, rfl, by decide, (wW_at 227 (by rfl) (by rfl)), in_X5, tyX5_ok, nmX5⟩
set_option maxRecDepth 20000 in
theorem fl_X6_124 : qFL RX6 124 5 5 := ⟨RX5, TX5, 6, tyX5, rfl, by decide, (wW_at 228 (by rfl) (by rfl)), in_X5, tyX5_ok, nmX5⟩
set_option maxRecDepth 20000 in
theorem fl_X4_11 : qFL RX4 11 4 0 := ⟨RX4, TX4, 7, tyX4, rfl, by decide, (wW_at 242 (by rfl) (by rfl)), in_X4, tyX4_ok, nmX4⟩
set_option maxRecDepth 20000 in
theorem fl_X4_17 : qFL RX4 17 4 1 := ⟨RX4, TX4, 7, tyX4, rfl, by decide, (wW_at 243 (by rfl) (by rfl)), in_X4, tyX4_ok, nmX4⟩
set_option maxRecDepth 20000 in
theorem fl_X4_21 : qFL RX4 21 4 2 := ⟨RX4, TX4, 7, tyX4, rfl, by decide, (wW_at 244 (by rfl) (by rfl)), in_X4, tyX4_ok, nmX4⟩
set_option maxRecDepth 20000 in
theorem fl_X4_27 : qFL RX4 27 4 3 := ⟨RX4, TX4, 7, tyX4, rfl, by decide, (wW_at 245 (by rfl) (by rfl)), in_X4, tyX4_ok, nmX4⟩
set_option maxRecDepth 20000 in
theorem fl_X4_34 : qFL RX4 34 4 4 := ⟨RX4, TX4, 7, tyX4, rfl, by decide, (wW_at 246 (by rfl) (by rfl)), in_X4, tyX4_ok, nmX4⟩
set_option maxRecDepth 20000 in
theorem fl_X4_41 : qFL RX4 41 4 5 := ⟨RX4, TX4, 7, tyX4, rfl, by decide, (wW_at 247 (by rfl) (by rfl)), in_X4, tyX4_ok, nmX4⟩
set_option maxRecDepth 20000 in
theorem fl_X4_50 : qFL RX4 50 4 6 := ⟨RX4, TX4, 7, tyX4, rfl, by decide, (wW_at 248 (by rfl) (by rfl)), in_X4, tyX4_ok, nmX4⟩
set_option maxRecDepth 20000 in
theorem fl_X6_11 : qFL RX6 11 6 0 := ⟨RX6, TX6, 16, tyX6, rfl, by decide, (wW_at 271 (by rfl) (by rfl)), in_X6, tyX6_ok, nmX6⟩
set_option maxRecDepth 20000 in
theorem fl_X6_42 : qFL RX6 42 6 1 := ⟨RX6, TX6, 16, tyX6, rfl, by decide, (wW_at 272 (by rfl) (by rfl)), in_X6, tyX6_ok, nmX6⟩
set_option maxRecDepth 20000 in
theorem fl_X6_46 : qFL RX6 46 6 2 := ⟨RX6, TX6, 16, tyX6, rfl, by decide, (wW_at 273 (by rfl) (by rfl)), in_X6, tyX6_ok, nmX6⟩
set_option maxRecDepth 20000 in
theorem fl_X6_49 : qFL RX6 49 6 3 := ⟨RX6, TX6, 16, tyX6, rfl, by decide, (wW_at 274 (by rfl) (by rfl)), in_X6, tyX6_ok, nmX6⟩
set_option maxRecDepth 20000 in
theorem fl_X6_17 : qFL RX6 17 6 4 := ⟨RX6, TX6, 16, tyX6, rfl, by decide, (wW_at 275 (by rfl) (by rfl)), in_X6, tyX6_ok, nmX6⟩
set_option maxRecDepth 20000 in
theorem fl_X6_21 : qFL RX6 21 6 5 := ⟨RX6, TX6, 16, tyX6, rfl, by decide, (wW_at 276 (by rfl) (by rfl)), in_X6, tyX6_ok, nmX6⟩
set_option maxRecDepth 20000 in
theorem fl_X6_56 : qFL RX6 56 6 6 := ⟨RX6, TX6, 16, tyX6, rfl, by decide, (wW_at 277 (by rfl) (by rfl)), in_X6, tyX6_ok, nmX6⟩
set_option maxRecDepth 20000 in
theorem fl_X6_72 : qFL RX6 72 6 7 := ⟨RX6, TX6, 16, tyX6, rfl, by decide, (wW_at 278 (by rfl) (by rfl)), in_X6, tyX6_ok, nmX6⟩
set_option maxRecDepth 20000 in
theorem fl_X6_24 : qFL RX6 24 6 8 := ⟨RX6, TX6, 16, tyX6, rfl, by decide, (wW_at 279 (by rfl) (by rfl)), in_X6, tyX6_ok, nmX6⟩
set_option maxRecDepth 20000 in
theorem fl_X6_27 : qFL RX6 27 6 9 := ⟨RX6, TX6, 16, tyX6, rfl, by decide, (wW_at 280 (by rfl) (by rfl)), in_X6, tyX6_ok, nmX6⟩
set_option maxRecDepth 20000 in
theorem fl_X6_30 : qFL RX6 30 6 10 := ⟨RX6, TX6, 16, tyX6, rfl, by decide, (wW_at 281 (by rfl) (by rfl)), in_X6, tyX6_ok, nmX6⟩
set_option maxRecDepth 20000 in
theorem fl_X6_33 : qFL RX6 33 6 11 := ⟨RX6, TX6, 16, tyX6, rfl, by decide, (wW_at 282 (by rfl) (by rfl)), in_X6, tyX6_ok, nmX6⟩
set_option maxRecDepth 20000 in
theorem fl_X6_36 : qFL RX6 36 6 12 := ⟨RX6, TX6, 16, tyX6, rfl, by decide, (wW_at 283 (by rfl) (by rfl)), in_X6, tyX6_ok, nmX6⟩
set_option maxRecDepth 20000 in
theorem fl_X6_85 : qFL RX6 85 6 13 := ⟨RX6, TX6, 16, tyX6, rfl, by decide, (wW_at 284 (by rfl) (by rfl)), in_X6, tyX6_ok, nmX6⟩
set_option maxRecDepth 20000 in
theorem fl_X6_39 : qFL RX6 39 6 14 := ⟨RX6, TX6, 16, tyX6, rfl, by decide, (wW_at 285 (by rfl) (by rfl)), in_X6, tyX6_ok, nmX6⟩
set_option maxRecDepth 20000 in
theorem fl_X6_82 : qFL RX6 82 6 15 := ⟨RX6, TX6, 16, tyX6, rfl, by decide, (wW_at 286 (by rfl) (by rfl)), in_X6, tyX6_ok, nmX6⟩
set_option maxRecDepth 20000 in
theorem fl_X7_11 : qFL RX7 11 7 0 := ⟨RX7, TX7, 6, tyX7, rfl, by decide, (wW_at 321 (by rfl) (by rfl)), in_X7, tyX7_ok, nmX7⟩
set_option maxRecDepth 20000 in
theorem fl_X7_18 : qFL RX7 18 7 1 := ⟨RX7, TX7, 6, tyX7, rfl, by decide, (wW_at 322 (by rfl) (by rfl)), in_X7, tyX7_ok, nmX7⟩
set_option maxRecDepth 20000 in
theorem fl_X7_25 : qFL RX7 25 7 2 := ⟨RX7, TX7, 6, tyX7, rfl, by decide, (wW_at 323 (by rfl) (by rfl)), in_X7, tyX7_ok, nmX7⟩
set_option maxRecDepth 20000 in
theorem fl_X7_32 : qFL RX7 32 7 3 := ⟨RX7, TX7, 6, tyX7, rfl, by decide, (wW_at 324 (by rfl) (by rfl)), in_X7, tyX7_ok, nmX7⟩
set_option maxRecDepth 20000 in
theorem fl_X7_45 : qFL RX7 45 7 4 := ⟨RX7, TX7, 6, tyX7, rfl, by decide, (wW_at 325 (by rfl) (by rfl)), in_X7, tyX7_ok, nmX7⟩
set_option maxRecDepth 20000 in
theorem fl_X7_36 : qFL RX7 36 7 5 := ⟨RX7, TX7, 6, tyX7, rfl, by decide, (wW_at 326 (by rfl) (by rfl)), in_X7, tyX7_ok, nmX7⟩
set_option maxRecDepth 20000 in
theorem fl_X8_94 : qFL RX8 94 8 0 := ⟨RX8, TX8, 35, tyX8, rfl, by decide, (wW_at 780 (by rfl) (by rfl)), in_X8, tyX8_ok, nmX8⟩
set_option maxRecDepth 20000 in
theorem fl_X8_97 : qFL RX8 97 8 1 := ⟨RX8, TX8, 35, tyX8, rfl, by decide, (wW_at 781 (by rfl) (by rfl)), in_X8, tyX8_ok, nmX8⟩
set_option maxRecDepth 20000 in
theorem fl_X8_7 : qFL RX8 7 8 2 := ⟨RX8, TX8, 35, tyX8, rfl, by decide, (wW_at 782 (by rfl) (by rfl)), in_X8, tyX8_ok, nmX8⟩
set_option maxRecDepth 20000 in
theorem fl_X8_13 : qFL RX8 13 8 3 := ⟨RX8, TX8, 35, tyX8, rfl, by decide, (wW_at 783 (by rfl) (by rfl)), in_X8, tyX8_ok, nmX8⟩
set_option maxRecDepth 20000 in
theorem fl_X8_17 : qFL RX8 17 8 4 := ⟨RX8, TX8, 35, tyX8, rfl, by decide, (wW_at 784 (by rfl) (by rfl)), in_X8, tyX8_ok, nmX8⟩
set_option maxRecDepth 20000 in
theorem fl_X8_20 : qFL RX8 20 8 5 := ⟨RX8, TX8, 35, tyX8, rfl, by decide, (wW_at 785 (by rfl) (by rfl)), in_X8, tyX8_ok, nmX8⟩
set_option maxRecDepth 20000 in
theorem fl_X8_23 : qFL RX8 23 8 6 := ⟨RX8, TX8, 35, tyX8, rfl, by decide, (wW_at 786 (by rfl) (by rfl)), in_X8, tyX8_ok, nmX8⟩
set_option maxRecDepth 20000 in
theorem fl_X8_26 : qFL RX8 26 8 7 := ⟨RX8, TX8, 35, tyX8, rfl, by decide, (wW_at 787 (by rfl) (by rfl)), in_X8, tyX8_ok, nmX8⟩
set_option maxRecDepth 20000 in
theorem fl_X8_29 : qFL RX8 29 8 8 := ⟨RX8, TX8, 35, tyX8, rfl, by decide, (wW_at 788 (by rfl) (by rfl)), in_X8, tyX8_ok, nmX8⟩
set_option maxRecDepth 20000 in
theorem fl_X8_117 : qFL RX8 117 8 9 := ⟨RX8, TX8, 35, tyX8, rfl, by decide, (wW_at 789 (by rfl) (by rfl)), in_X8, tyX8_ok, nmX8⟩
set_option maxRecDepth 20000 in
theorem fl_X8_120 : qFL RX8 120 8 10 := ⟨RX8, TX8, 35, tyX8, rfl, by decide, (wW_at 790 (by rfl) (by rfl)), in_X8, tyX8_ok, nmX8⟩
set_option maxRecDepth 20000 in
theorem fl_X8_32 : qFL RX8 32 8 11 := ⟨RX8, TX8, 35, tyX8, rfl, by decide, (wW_at 791 (by rfl) (by rfl)), in_X8, tyX8_ok, nmX8⟩
set_option maxRecDepth 20000 in
theorem fl_X8_35 : qFL RX8 35 8 12 := ⟨RX8, TX8, 35, tyX8, rfl, by decide, (wW_at 792 (by rfl) (by rfl)), in_X8, tyX8_ok, nmX8⟩
set_option maxRecDepth 20000 in
theorem fl_X8_38 : qFL RX8 38 8 13 := ⟨RX8, TX8, 35, tyX8, rfl, by decide, (wW_at 793 (by rfl) (by rfl)), in_X8, tyX8_ok, nmX8⟩
set_option maxRecDepth 20000 in
theorem fl_X8_41 : qFL RX8 41 8 14 := ⟨RX8, TX8, 35, tyX8, rfl, by decide, (wW_at 794 (by rfl) (by rfl)), in_X8, tyX8_ok, nmX8⟩
set_option maxRecDepth 20000 in
theorem fl_X8_44 : qFL RX8 44 8 15 := ⟨RX8, TX8, 35, tyX8, rfl, by decide, (wW_at 795 (by rfl) (by rfl)), in_X8, tyX8_ok, nmX8⟩
set_option maxRecDepth 20000 in
theorem fl_X8_47 : qFL RX8 47 8 16 := ⟨RX8, TX8, 35, tyX8, rfl, by decide, (wW_at 796 (by rfl) (by rfl)), in_X8, tyX8_ok, nmX8⟩
set_option maxRecDepth 20000 in
theorem fl_X8_50 : qFL RX8 50 8 17 := ⟨RX8, TX8, 35, tyX8, rfl, by decide, (wW_at 797 (by rfl) (by rfl)), in_X8, tyX8_ok, nmX8⟩
set_option maxRecDepth 20000 in
theorem fl_X8_53 : qFL RX8 53 8 18 := ⟨RX8, TX8, 35, tyX8, rfl, by decide, (wW_at 798 (by rfl) (by rfl)), in_X8, tyX8_ok, nmX8⟩
set_option maxRecDepth 20000 in
theorem fl_X8_56 : qFL RX8 56 8 19 := ⟨RX8, TX8, 35, tyX8, rfl, by decide, (wW_at 799 (by rfl) (by rfl)), in_X8, tyX8_ok, nmX8⟩
set_option maxRecDepth 20000 in
theorem fl_X8_155 : qFL RX8 155 8 20 := ⟨RX8, TX8, 35, tyX8, rfl, by decide, (wW_at 800 (by rfl) (by rfl)), in_X8, tyX8_ok, nmX8⟩
set_option maxRecDepth 20000 in
theorem fl_X8_60 : qFL RX8 60 8 21 := ⟨RX8, TX8, 35, tyX8, rfl, by decide, (wW_at 801 (by rfl) (by rfl)), in_X8, tyX8_ok, nmX8⟩
set_option maxRecDepth 20000 in
theorem fl_X8_63 : qFL RX8 63 8 22 := ⟨RX8, TX8, 35, tyX8, rfl, by decide, (wW_at 802 (by rfl) (by rfl)), in_X8, tyX8_ok, nmX8⟩
set_option maxRecDepth 20000 in
theorem fl_X8_66 : qFL RX8 66 8 23 := ⟨RX8, TX8, 35, tyX8, rfl, by decide, (wW_at 803 (by rfl) (by rfl)), in_X8, tyX8_ok, nmX8⟩
set_option maxRecDepth 20000 in
theorem fl_X8_70 : qFL RX8 70 8 24 := ⟨RX8, TX8, 35, tyX8, rfl, by decide, (wW_at 804 (by rfl) (by rfl)), in_X8, tyX8_ok, nmX8⟩
set_option maxRecDepth 20000 in
theorem fl_X8_211 : qFL RX8 211 8 25 := ⟨RX8, TX8, 35, tyX8, rfl, by decide, (wW_at 805 (by rfl) (by rfl)), in_X8, tyX8_ok, nmX8⟩
set_option maxRecDepth 20000 in
theorem fl_X8_189 : qFL RX8 189 8 26 := ⟨RX8, TX8, 35, tyX8, rfl, by decide, (wW_at 806 (by rfl) (by rfl)), in_X8, tyX8_ok, nmX8⟩
set_option maxRecDepth 20000 in
theorem fl_X8_73 : qFL RX8 73 8 27 := ⟨RX8, TX8, 35, tyX8, rfl, by decide, (wW_at 807 (by rfl) (by rfl)), in_X8, tyX8_ok, nmX8⟩
set_option maxRecDepth 20000 in
theorem fl_X8_76 : qFL RX8 76 8 28 := ⟨RX8, TX8, 35, tyX8, rfl, by decide, (wW_at 808 (by rfl) (by rfl)), in_X8, tyX8_ok, nmX8⟩
set_option maxRecDepth 20000 in
theorem fl_X8_79 : qFL RX8 79 8 29 := ⟨RX8, TX8, 35, tyX8, rfl, by decide, (wW_at 809 (by rfl) (by rfl)), in_X8, tyX8_ok, nmX8⟩
set_option maxRecDepth 20000 in
theorem fl_X8_82 : qFL RX8 82 8 30 := ⟨RX8, TX8, 35, tyX8, rfl, by decide, (wW_at 810 (by rfl) (by rfl)), in_X8, tyX8_ok, nmX8⟩
set_option maxRecDepth 20000 in
theorem fl_X8_85 : qFL RX8 85 8 31 := ⟨RX8, TX8, 35, tyX8, rfl, by decide, (wW_at 811 (by rfl) (by rfl)), in_X8, tyX8_ok, nmX8⟩
set_option maxRecDepth 20000 in
theorem fl_X8_88 : qFL RX8 88 8 32 := ⟨RX8, TX8, 35, tyX8, rfl, by decide, (wW_at 812 (by rfl) (by rfl)), in_X8, tyX8_ok, nmX8⟩
set_option maxRecDepth 20000 in
theorem fl_X8_228 : qFL RX8 228 8 33 := ⟨RX8, TX8, 35, tyX8, rfl, by decide, (wW_at 813 (by rfl) (by rfl)), in_X8, tyX8_ok, nmX8⟩
set_option maxRecDepth 20000 in
theorem fl_X8_91 : qFL RX8 91 8 34 := ⟨RX8, TX8, 35, tyX8, rfl, by decide, (wW_at 814 (by rfl) (by rfl)), in_X8, tyX8_ok, nmX8⟩
/-! calls -/
set_option maxRecDepth 20000 in
theorem cl_L_9 : qCI RL 9 0 mX7_init := ⟨(wW_at 96 (by rfl) (by rfl)), (wW_at 79 (by rfl) (by rfl)), (wW_at 94 (by rfl) (by rfl)), (wW_at 95 (by rfl) (by rfl)), rfl, ⟨by decide, by decide, by decide +kernel⟩, rfl⟩
set_option maxRecDepth 20000 in
theorem cl_X7_3 : Cond.methodLink RX7 3 objectInit ∈ wW := (wW_at 97 (by rfl) (by rfl))
set_option maxRecDepth 20000 in
theorem cl_X7_17 : qCIN RX7 17 0 "TrainBook" mX3_init := ⟨(wW_at 106 (by rfl) (by rfl)), (wW_at 80 (by rfl) (by rfl)), List.mem_filter.mpr ⟨List.mem_of_getElem? (i := 104) (by rfl), by rfl⟩, (wW_at 105 (by rfl) (by rfl)), rfl, ⟨by decide, by decide, by decide +kernel⟩, rfl⟩
set_option maxRecDepth 20000 in
theorem cl_X3_3 : Cond.methodLink RX3 3 objectInit ∈ wW := (wW_at 107 (by rfl) (by rfl))
set_option maxRecDepth 20000 in
theorem cl_X7_24 : qCI RX7 24 0 mX4_init := ⟨(wW_at 117 (by rfl) (by rfl)), (wW_at 81 (by rfl) (by rfl)), (wW_at 115 (by rfl) (by rfl)), (wW_at 116 (by rfl) (by rfl)), rfl, ⟨by decide, by decide, by decide +kernel⟩, rfl⟩
set_option maxRecDepth 20000 in
theorem cl_X4_3 : Cond.methodLink RX4 3 objectInit ∈ wW := (wW_at 118 (by rfl) (by rfl))
set_option maxRecDepth 20000 in
theorem cl_X4_26 : qCIN RX4 26 0 "TrainBook" mX2_init := ⟨(wW_at 124 (by rfl) (by rfl)), (wW_at 82 (by rfl) (by rfl)), List.mem_filter.mpr ⟨List.mem_of_getElem? (i := 122) (by rfl), by rfl⟩, (wW_at 123 (by rfl) (by rfl)), rfl, ⟨by decide, by decide, by decide +kernel⟩, rfl⟩
set_option maxRecDepth 20000 in
theorem cl_X2_5 : Cond.methodLink RX2 5 objectInit ∈ wW := (wW_at 125 (by rfl) (by rfl))
set_option maxRecDepth 20000 in
theorem cl_X4_33 : qCIN RX4 33 0 "TrainBook" mX0_init := ⟨(wW_at 160 (by rfl) (by rfl)), (wW_at 83 (by rfl) (by rfl)), List.mem_filter.mpr ⟨List.mem_of_getElem? (i := 158) (by rfl), by rfl⟩, (wW_at 159 (by rfl) (by rfl)), rfl, ⟨by decide, by decide, by decide +kernel⟩, rfl⟩
set_option maxRecDepth 20000 in
theorem cl_X0_3 : Cond.methodLink RX0 3 objectInit ∈ wW := (wW_at 161 (by rfl) (by rfl))
set_option maxRecDepth 20000 in
theorem cl_X4_40 : qCIN RX4 40 0 "TrainBook" mX1_init := ⟨(wW_at 188 (by rfl) (by rfl)), (wW_at 84 (by rfl) (by rfl)), List.mem_filter.mpr ⟨List.mem_of_getElem? (i := 186) (by rfl), by rfl⟩, (wW_at 187 (by rfl) (by rfl)), rfl, ⟨by decide, by decide, by decide +kernel⟩, rfl⟩
set_option maxRecDepth 20000 in
theorem cl_X1_3 : Cond.methodLink RX1 3 objectInit ∈ wW := (wW_at 189 (by rfl) (by rfl))
set_option maxRecDepth 20000 in
theorem cl_X4_45 : qCI RX4 45 0 mX5_init := ⟨(wW_at 205 (by rfl) (by rfl)), (wW_at 85 (by rfl) (by rfl)), (wW_at 203 (by rfl) (by rfl)), (wW_at 204 (by rfl) (by rfl)), rfl, ⟨by decide, by decide, by decide +kernel⟩, rfl⟩
set_option maxRecDepth 20000 in
theorem cl_X5_3 : Cond.methodLink RX5 3 objectInit ∈ wW := (wW_at 206 (by rfl) (by rfl))
set_option maxRecDepth 20000 in
theorem cl_X5_24 : qCS RX5 24 2 mJ7_fill_53178 := ⟨(wW_at 209 (by rfl) (by rfl)), (wW_at 86 (by rfl) (by rfl)), (wW_at 207 (by rfl) (by rfl)), (wW_at 208 (by rfl) (by rfl)), ⟨by decide, by decide, by decide +kernel⟩⟩
set_option maxRecDepth 20000 in
theorem cl_X7_31 : qCIN RX7 31 0 "TrainBook" mX6_init := ⟨(wW_at 268 (by rfl) (by rfl)), (wW_at 87 (by rfl) (by rfl)), List.mem_filter.mpr ⟨List.mem_of_getElem? (i := 266) (by rfl), by rfl⟩, (wW_at 267 (by rfl) (by rfl)), rfl, ⟨by decide, by decide, by decide +kernel⟩, rfl⟩
set_option maxRecDepth 20000 in
theorem cl_X6_3 : Cond.methodLink RX6 3 objectInit ∈ wW := (wW_at 269 (by rfl) (by rfl))
set_option maxRecDepth 20000 in
theorem cl_X7_40 : qCI RX7 40 0 mX5_init := ⟨(wW_at 205 (by rfl) (by rfl)), (wW_at 85 (by rfl) (by rfl)), (wW_at 320 (by rfl) (by rfl)), (wW_at 204 (by rfl) (by rfl)), rfl, ⟨by decide, by decide, by decide +kernel⟩, rfl⟩
set_option maxRecDepth 20000 in
theorem cl_L_13 : qCV RL 13 1 7 mX7_train := ⟨(wW_at 343 (by rfl) (by rfl)), (wW_at 79 (by rfl) (by rfl)), (wW_at 340 (by rfl) (by rfl)), (wW_at 341 (by rfl) (by rfl)), (wW_at 342 (by rfl) (by rfl)), ⟨by decide, by decide, by decide +kernel⟩, by decide, TX7, 6, rfl⟩
set_option maxRecDepth 20000 in
theorem cl_X7_41 : qCS RX7 41 1 mX7_areDays := ⟨(wW_at 346 (by rfl) (by rfl)), (wW_at 79 (by rfl) (by rfl)), (wW_at 344 (by rfl) (by rfl)), (wW_at 345 (by rfl) (by rfl)), ⟨by decide, by decide, by decide +kernel⟩⟩
set_option maxRecDepth 20000 in
theorem cl_L_18 : qCV RL 18 4 7 mX7_stop := ⟨(wW_at 350 (by rfl) (by rfl)), (wW_at 79 (by rfl) (by rfl)), (wW_at 347 (by rfl) (by rfl)), (wW_at 348 (by rfl) (by rfl)), (wW_at 349 (by rfl) (by rfl)), ⟨by decide, by decide, by decide +kernel⟩, by decide, TX7, 6, rfl⟩
set_option maxRecDepth 20000 in
theorem cl_X7_51 : qCV RX7 51 1 7 mX7_trainOf := ⟨(wW_at 354 (by rfl) (by rfl)), (wW_at 79 (by rfl) (by rfl)), (wW_at 351 (by rfl) (by rfl)), (wW_at 353 (by rfl) (by rfl)), (wW_at 0 (by rfl) (by rfl)), ⟨by decide, by decide, by decide +kernel⟩, by decide, TX7, 6, rfl⟩
set_option maxRecDepth 20000 in
theorem cl_X7_55 : qCS RX7 55 1 mX7_isStation := ⟨(wW_at 357 (by rfl) (by rfl)), (wW_at 79 (by rfl) (by rfl)), (wW_at 355 (by rfl) (by rfl)), (wW_at 356 (by rfl) (by rfl)), ⟨by decide, by decide, by decide +kernel⟩⟩
set_option maxRecDepth 20000 in
theorem cl_X7_58 : qCV RX7 58 3 5 mX5_takes := ⟨(wW_at 361 (by rfl) (by rfl)), (wW_at 85 (by rfl) (by rfl)), (wW_at 358 (by rfl) (by rfl)), (wW_at 359 (by rfl) (by rfl)), (wW_at 360 (by rfl) (by rfl)), ⟨by decide, by decide, by decide +kernel⟩, by decide, TX5, 6, rfl⟩
set_option maxRecDepth 20000 in
theorem cl_X7_62 : qCV RX7 62 3 5 mX5_add := ⟨(wW_at 365 (by rfl) (by rfl)), (wW_at 85 (by rfl) (by rfl)), (wW_at 362 (by rfl) (by rfl)), (wW_at 363 (by rfl) (by rfl)), (wW_at 364 (by rfl) (by rfl)), ⟨by decide, by decide, by decide +kernel⟩, by decide, TX5, 6, rfl⟩
set_option maxRecDepth 20000 in
theorem cl_L_23 : qCV RL 23 2 7 mX7_days := ⟨(wW_at 369 (by rfl) (by rfl)), (wW_at 79 (by rfl) (by rfl)), (wW_at 366 (by rfl) (by rfl)), (wW_at 367 (by rfl) (by rfl)), (wW_at 368 (by rfl) (by rfl)), ⟨by decide, by decide, by decide +kernel⟩, by decide, TX7, 6, rfl⟩
set_option maxRecDepth 20000 in
theorem cl_L_28 : qCV RL 28 1 7 mX7_cut := ⟨(wW_at 373 (by rfl) (by rfl)), (wW_at 79 (by rfl) (by rfl)), (wW_at 370 (by rfl) (by rfl)), (wW_at 371 (by rfl) (by rfl)), (wW_at 372 (by rfl) (by rfl)), ⟨by decide, by decide, by decide +kernel⟩, by decide, TX7, 6, rfl⟩
set_option maxRecDepth 20000 in
theorem cl_X7_69 : qCV RX7 69 0 5 mX5_dropLast := ⟨(wW_at 377 (by rfl) (by rfl)), (wW_at 85 (by rfl) (by rfl)), (wW_at 374 (by rfl) (by rfl)), (wW_at 375 (by rfl) (by rfl)), (wW_at 376 (by rfl) (by rfl)), ⟨by decide, by decide, by decide +kernel⟩, by decide, TX5, 6, rfl⟩
set_option maxRecDepth 20000 in
theorem cl_L_33 : qCV RL 33 2 7 mX7_shift := ⟨(wW_at 381 (by rfl) (by rfl)), (wW_at 79 (by rfl) (by rfl)), (wW_at 378 (by rfl) (by rfl)), (wW_at 379 (by rfl) (by rfl)), (wW_at 380 (by rfl) (by rfl)), ⟨by decide, by decide, by decide +kernel⟩, by decide, TX7, 6, rfl⟩
set_option maxRecDepth 20000 in
theorem cl_X7_72 : qCV RX7 72 1 5 mX5_staysInDay := ⟨(wW_at 385 (by rfl) (by rfl)), (wW_at 85 (by rfl) (by rfl)), (wW_at 382 (by rfl) (by rfl)), (wW_at 383 (by rfl) (by rfl)), (wW_at 384 (by rfl) (by rfl)), ⟨by decide, by decide, by decide +kernel⟩, by decide, TX5, 6, rfl⟩
set_option maxRecDepth 20000 in
theorem cl_X7_75 : qCV RX7 75 1 5 mX5_move := ⟨(wW_at 390 (by rfl) (by rfl)), (wW_at 85 (by rfl) (by rfl)), (wW_at 387 (by rfl) (by rfl)), (wW_at 388 (by rfl) (by rfl)), (wW_at 389 (by rfl) (by rfl)), ⟨by decide, by decide, by decide +kernel⟩, by decide, TX5, 6, rfl⟩
set_option maxRecDepth 20000 in
theorem cl_L_37 : qCV RL 37 2 7 mX7_sign := ⟨(wW_at 394 (by rfl) (by rfl)), (wW_at 79 (by rfl) (by rfl)), (wW_at 391 (by rfl) (by rfl)), (wW_at 392 (by rfl) (by rfl)), (wW_at 393 (by rfl) (by rfl)), ⟨by decide, by decide, by decide +kernel⟩, by decide, TX7, 6, rfl⟩
set_option maxRecDepth 20000 in
theorem cl_X7_79 : qCV RX7 79 2 3 mX3_tell := ⟨(wW_at 398 (by rfl) (by rfl)), (wW_at 80 (by rfl) (by rfl)), (wW_at 395 (by rfl) (by rfl)), (wW_at 396 (by rfl) (by rfl)), (wW_at 397 (by rfl) (by rfl)), ⟨by decide, by decide, by decide +kernel⟩, by decide, TX3, 1, rfl⟩
set_option maxRecDepth 20000 in
theorem cl_L_41 : qCV RL 41 1 7 mX7_change := ⟨(wW_at 402 (by rfl) (by rfl)), (wW_at 79 (by rfl) (by rfl)), (wW_at 399 (by rfl) (by rfl)), (wW_at 400 (by rfl) (by rfl)), (wW_at 401 (by rfl) (by rfl)), ⟨by decide, by decide, by decide +kernel⟩, by decide, TX7, 6, rfl⟩
set_option maxRecDepth 20000 in
theorem cl_L_45 : qCV RL 45 1 7 mX7_about := ⟨(wW_at 406 (by rfl) (by rfl)), (wW_at 79 (by rfl) (by rfl)), (wW_at 403 (by rfl) (by rfl)), (wW_at 404 (by rfl) (by rfl)), (wW_at 405 (by rfl) (by rfl)), ⟨by decide, by decide, by decide +kernel⟩, by decide, TX7, 6, rfl⟩
set_option maxRecDepth 20000 in
theorem cl_X7_83 : qCV RX7 83 1 7 mX7_aboutBook := ⟨(wW_at 410 (by rfl) (by rfl)), (wW_at 79 (by rfl) (by rfl)), (wW_at 407 (by rfl) (by rfl)), (wW_at 409 (by rfl) (by rfl)), (wW_at 1 (by rfl) (by rfl)), ⟨by decide, by decide, by decide +kernel⟩, by decide, TX7, 6, rfl⟩
set_option maxRecDepth 20000 in
theorem cl_X7_105 : qCV RX7 105 0 4 mX4_rowCount := ⟨(wW_at 414 (by rfl) (by rfl)), (wW_at 81 (by rfl) (by rfl)), (wW_at 411 (by rfl) (by rfl)), (wW_at 412 (by rfl) (by rfl)), (wW_at 413 (by rfl) (by rfl)), ⟨by decide, by decide, by decide +kernel⟩, by decide, TX4, 7, rfl⟩
set_option maxRecDepth 20000 in
theorem cl_X7_161 : qCV RX7 161 0 4 mX4_columnCount := ⟨(wW_at 418 (by rfl) (by rfl)), (wW_at 81 (by rfl) (by rfl)), (wW_at 415 (by rfl) (by rfl)), (wW_at 416 (by rfl) (by rfl)), (wW_at 417 (by rfl) (by rfl)), ⟨by decide, by decide, by decide +kernel⟩, by decide, TX4, 7, rfl⟩
set_option maxRecDepth 20000 in
theorem cl_X7_87 : qCV RX7 87 1 5 mX5_read := ⟨(wW_at 422 (by rfl) (by rfl)), (wW_at 85 (by rfl) (by rfl)), (wW_at 419 (by rfl) (by rfl)), (wW_at 420 (by rfl) (by rfl)), (wW_at 421 (by rfl) (by rfl)), ⟨by decide, by decide, by decide +kernel⟩, by decide, TX5, 6, rfl⟩
set_option maxRecDepth 20000 in
theorem cl_L_49 : qCV RL 49 2 7 mX7_signs := ⟨(wW_at 426 (by rfl) (by rfl)), (wW_at 79 (by rfl) (by rfl)), (wW_at 423 (by rfl) (by rfl)), (wW_at 424 (by rfl) (by rfl)), (wW_at 425 (by rfl) (by rfl)), ⟨by decide, by decide, by decide +kernel⟩, by decide, TX7, 6, rfl⟩
set_option maxRecDepth 20000 in
theorem cl_X7_90 : qCV RX7 90 1 3 mX3_fewestFor := ⟨(wW_at 430 (by rfl) (by rfl)), (wW_at 80 (by rfl) (by rfl)), (wW_at 427 (by rfl) (by rfl)), (wW_at 428 (by rfl) (by rfl)), (wW_at 429 (by rfl) (by rfl)), ⟨by decide, by decide, by decide +kernel⟩, by decide, TX3, 1, rfl⟩
set_option maxRecDepth 20000 in
theorem cl_X3_15 : qCV RX3 15 1 3 mX3_unionOf := ⟨(wW_at 434 (by rfl) (by rfl)), (wW_at 80 (by rfl) (by rfl)), (wW_at 431 (by rfl) (by rfl)), (wW_at 433 (by rfl) (by rfl)), (wW_at 2 (by rfl) (by rfl)), ⟨by decide, by decide, by decide +kernel⟩, by decide, TX3, 1, rfl⟩
set_option maxRecDepth 20000 in
theorem cl_X3_19 : qCS RX3 19 2 mX3_lesser := ⟨(wW_at 437 (by rfl) (by rfl)), (wW_at 80 (by rfl) (by rfl)), (wW_at 435 (by rfl) (by rfl)), (wW_at 436 (by rfl) (by rfl)), ⟨by decide, by decide, by decide +kernel⟩⟩
set_option maxRecDepth 20000 in
theorem cl_X3_23 : qCS RX3 23 1 mJ6_bitCount_0f7a4 := ⟨(wW_at 440 (by rfl) (by rfl)), (wW_at 89 (by rfl) (by rfl)), (wW_at 438 (by rfl) (by rfl)), (wW_at 439 (by rfl) (by rfl)), ⟨by decide, by decide, by decide +kernel⟩⟩
set_option maxRecDepth 20000 in
theorem cl_X3_28 : Cond.methodLink RX3 28 Lib.Math.min.name ∈ wW := (wW_at 444 (by rfl) (by rfl))
set_option maxRecDepth 20000 in
theorem cl_X7_93 : qCS RX7 93 1 mJ6_bitCount_0f7a4 := ⟨(wW_at 440 (by rfl) (by rfl)), (wW_at 89 (by rfl) (by rfl)), (wW_at 447 (by rfl) (by rfl)), (wW_at 439 (by rfl) (by rfl)), ⟨by decide, by decide, by decide +kernel⟩⟩
set_option maxRecDepth 20000 in
theorem cl_L_54 : qCV RL 54 1 7 mX7_table := ⟨(wW_at 451 (by rfl) (by rfl)), (wW_at 79 (by rfl) (by rfl)), (wW_at 448 (by rfl) (by rfl)), (wW_at 449 (by rfl) (by rfl)), (wW_at 450 (by rfl) (by rfl)), ⟨by decide, by decide, by decide +kernel⟩, by decide, TX7, 6, rfl⟩
set_option maxRecDepth 20000 in
theorem cl_X7_98 : qCV RX7 98 1 7 mX7_canBeTable := ⟨(wW_at 455 (by rfl) (by rfl)), (wW_at 79 (by rfl) (by rfl)), (wW_at 452 (by rfl) (by rfl)), (wW_at 454 (by rfl) (by rfl)), (wW_at 3 (by rfl) (by rfl)), ⟨by decide, by decide, by decide +kernel⟩, by decide, TX7, 6, rfl⟩
set_option maxRecDepth 20000 in
theorem cl_X7_101 : qCV RX7 101 2 4 mX4_make := ⟨(wW_at 459 (by rfl) (by rfl)), (wW_at 81 (by rfl) (by rfl)), (wW_at 456 (by rfl) (by rfl)), (wW_at 457 (by rfl) (by rfl)), (wW_at 458 (by rfl) (by rfl)), ⟨by decide, by decide, by decide +kernel⟩, by decide, TX4, 7, rfl⟩
set_option maxRecDepth 20000 in
theorem cl_X4_46 : qCV RX4 46 2 4 mX4_takeMembers := ⟨(wW_at 463 (by rfl) (by rfl)), (wW_at 81 (by rfl) (by rfl)), (wW_at 460 (by rfl) (by rfl)), (wW_at 462 (by rfl) (by rfl)), (wW_at 4 (by rfl) (by rfl)), ⟨by decide, by decide, by decide +kernel⟩, by decide, TX4, 7, rfl⟩
set_option maxRecDepth 20000 in
theorem cl_X4_108 : qCV RX4 108 1 5 mX5_copy := ⟨(wW_at 467 (by rfl) (by rfl)), (wW_at 85 (by rfl) (by rfl)), (wW_at 464 (by rfl) (by rfl)), (wW_at 465 (by rfl) (by rfl)), (wW_at 466 (by rfl) (by rfl)), ⟨by decide, by decide, by decide +kernel⟩, by decide, TX5, 6, rfl⟩
set_option maxRecDepth 20000 in
theorem cl_X5_43 : Cond.methodLink RX5 43 arraycopyName ∈ wW := (wW_at 468 (by rfl) (by rfl))
set_option maxRecDepth 20000 in
theorem cl_X4_54 : qCV RX4 54 2 2 mX2_search := ⟨(wW_at 474 (by rfl) (by rfl)), (wW_at 82 (by rfl) (by rfl)), (wW_at 471 (by rfl) (by rfl)), (wW_at 472 (by rfl) (by rfl)), (wW_at 473 (by rfl) (by rfl)), ⟨by decide, by decide, by decide +kernel⟩, by decide, TX2, 9, rfl⟩
set_option maxRecDepth 20000 in
theorem cl_X2_27 : qCV RX2 27 2 2 mX2_prepare := ⟨(wW_at 478 (by rfl) (by rfl)), (wW_at 82 (by rfl) (by rfl)), (wW_at 475 (by rfl) (by rfl)), (wW_at 477 (by rfl) (by rfl)), (wW_at 5 (by rfl) (by rfl)), ⟨by decide, by decide, by decide +kernel⟩, by decide, TX2, 9, rfl⟩
set_option maxRecDepth 20000 in
theorem cl_X2_65 : qCV RX2 65 2 2 mX2_readStops := ⟨(wW_at 482 (by rfl) (by rfl)), (wW_at 82 (by rfl) (by rfl)), (wW_at 479 (by rfl) (by rfl)), (wW_at 481 (by rfl) (by rfl)), (wW_at 6 (by rfl) (by rfl)), ⟨by decide, by decide, by decide +kernel⟩, by decide, TX2, 9, rfl⟩
set_option maxRecDepth 20000 in
theorem cl_X2_69 : qCV RX2 69 3 2 mX2_fillPair := ⟨(wW_at 486 (by rfl) (by rfl)), (wW_at 82 (by rfl) (by rfl)), (wW_at 483 (by rfl) (by rfl)), (wW_at 485 (by rfl) (by rfl)), (wW_at 7 (by rfl) (by rfl)), ⟨by decide, by decide, by decide +kernel⟩, by decide, TX2, 9, rfl⟩
set_option maxRecDepth 20000 in
theorem cl_X2_80 : Cond.methodLink RX2 80 Lib.Math.min.name ∈ wW := (wW_at 487 (by rfl) (by rfl))
set_option maxRecDepth 20000 in
theorem cl_X2_73 : qCV RX2 73 1 2 mX2_openKnown := ⟨(wW_at 491 (by rfl) (by rfl)), (wW_at 82 (by rfl) (by rfl)), (wW_at 488 (by rfl) (by rfl)), (wW_at 490 (by rfl) (by rfl)), (wW_at 8 (by rfl) (by rfl)), ⟨by decide, by decide, by decide +kernel⟩, by decide, TX2, 9, rfl⟩
set_option maxRecDepth 20000 in
theorem cl_X2_89 : qCS RX2 89 2 mJ7_fill_53178 := ⟨(wW_at 209 (by rfl) (by rfl)), (wW_at 86 (by rfl) (by rfl)), (wW_at 493 (by rfl) (by rfl)), (wW_at 208 (by rfl) (by rfl)), ⟨by decide, by decide, by decide +kernel⟩⟩
set_option maxRecDepth 20000 in
theorem cl_X2_37 : qCV RX2 37 1 2 mX2_needOf := ⟨(wW_at 497 (by rfl) (by rfl)), (wW_at 82 (by rfl) (by rfl)), (wW_at 494 (by rfl) (by rfl)), (wW_at 496 (by rfl) (by rfl)), (wW_at 9 (by rfl) (by rfl)), ⟨by decide, by decide, by decide +kernel⟩, by decide, TX2, 9, rfl⟩
set_option maxRecDepth 20000 in
theorem cl_X2_95 : qCV RX2 95 1 2 mX2_leastNeed := ⟨(wW_at 501 (by rfl) (by rfl)), (wW_at 82 (by rfl) (by rfl)), (wW_at 498 (by rfl) (by rfl)), (wW_at 500 (by rfl) (by rfl)), (wW_at 10 (by rfl) (by rfl)), ⟨by decide, by decide, by decide +kernel⟩, by decide, TX2, 9, rfl⟩
set_option maxRecDepth 20000 in
theorem cl_X2_98 : qCV RX2 98 2 2 mX2_placeOf := ⟨(wW_at 505 (by rfl) (by rfl)), (wW_at 82 (by rfl) (by rfl)), (wW_at 502 (by rfl) (by rfl)), (wW_at 504 (by rfl) (by rfl)), (wW_at 11 (by rfl) (by rfl)), ⟨by decide, by decide, by decide +kernel⟩, by decide, TX2, 9, rfl⟩
set_option maxRecDepth 20000 in
theorem cl_X2_101 : qCS RX2 101 1 mJ6_bitCount_0f7a4 := ⟨(wW_at 440 (by rfl) (by rfl)), (wW_at 89 (by rfl) (by rfl)), (wW_at 506 (by rfl) (by rfl)), (wW_at 439 (by rfl) (by rfl)), ⟨by decide, by decide, by decide +kernel⟩⟩
set_option maxRecDepth 20000 in
theorem cl_X2_106 : qCV RX2 106 3 2 mX2_pairNeedAt := ⟨(wW_at 510 (by rfl) (by rfl)), (wW_at 82 (by rfl) (by rfl)), (wW_at 507 (by rfl) (by rfl)), (wW_at 509 (by rfl) (by rfl)), (wW_at 12 (by rfl) (by rfl)), ⟨by decide, by decide, by decide +kernel⟩, by decide, TX2, 9, rfl⟩
set_option maxRecDepth 20000 in
theorem cl_X2_110 : Cond.methodLink RX2 110 Lib.Math.max.name ∈ wW := (wW_at 511 (by rfl) (by rfl))
set_option maxRecDepth 20000 in
theorem cl_X2_58 : qCV RX2 58 2 2 mX2_keep := ⟨(wW_at 517 (by rfl) (by rfl)), (wW_at 82 (by rfl) (by rfl)), (wW_at 514 (by rfl) (by rfl)), (wW_at 516 (by rfl) (by rfl)), (wW_at 13 (by rfl) (by rfl)), ⟨by decide, by decide, by decide +kernel⟩, by decide, TX2, 9, rfl⟩
set_option maxRecDepth 20000 in
theorem cl_X2_44 : qCS RX2 44 3 mX2_reach := ⟨(wW_at 520 (by rfl) (by rfl)), (wW_at 82 (by rfl) (by rfl)), (wW_at 518 (by rfl) (by rfl)), (wW_at 519 (by rfl) (by rfl)), ⟨by decide, by decide, by decide +kernel⟩⟩
set_option maxRecDepth 20000 in
theorem cl_X2_51 : qCV RX2 51 1 2 mX2_nextStations := ⟨(wW_at 524 (by rfl) (by rfl)), (wW_at 82 (by rfl) (by rfl)), (wW_at 521 (by rfl) (by rfl)), (wW_at 523 (by rfl) (by rfl)), (wW_at 14 (by rfl) (by rfl)), ⟨by decide, by decide, by decide +kernel⟩, by decide, TX2, 9, rfl⟩
set_option maxRecDepth 20000 in
theorem cl_X2_54 : qCV RX2 54 2 2 mX2_passed := ⟨(wW_at 528 (by rfl) (by rfl)), (wW_at 82 (by rfl) (by rfl)), (wW_at 525 (by rfl) (by rfl)), (wW_at 527 (by rfl) (by rfl)), (wW_at 15 (by rfl) (by rfl)), ⟨by decide, by decide, by decide +kernel⟩, by decide, TX2, 9, rfl⟩
set_option maxRecDepth 20000 in
theorem cl_X4_57 : qCV RX4 57 1 4 mX4_placeStops := ⟨(wW_at 532 (by rfl) (by rfl)), (wW_at 81 (by rfl) (by rfl)), (wW_at 529 (by rfl) (by rfl)), (wW_at 531 (by rfl) (by rfl)), (wW_at 16 (by rfl) (by rfl)), ⟨by decide, by decide, by decide +kernel⟩, by decide, TX4, 7, rfl⟩
set_option maxRecDepth 20000 in
theorem cl_X4_61 : qCV RX4 61 2 0 mX0_arrange := ⟨(wW_at 536 (by rfl) (by rfl)), (wW_at 83 (by rfl) (by rfl)), (wW_at 533 (by rfl) (by rfl)), (wW_at 534 (by rfl) (by rfl)), (wW_at 535 (by rfl) (by rfl)), ⟨by decide, by decide, by decide +kernel⟩, by decide, TX0, 6, rfl⟩
set_option maxRecDepth 20000 in
theorem cl_X0_28 : qCV RX0 28 2 0 mX0_breachedBy := ⟨(wW_at 540 (by rfl) (by rfl)), (wW_at 83 (by rfl) (by rfl)), (wW_at 537 (by rfl) (by rfl)), (wW_at 539 (by rfl) (by rfl)), (wW_at 17 (by rfl) (by rfl)), ⟨by decide, by decide, by decide +kernel⟩, by decide, TX0, 6, rfl⟩
set_option maxRecDepth 20000 in
theorem cl_X0_45 : qCV RX0 45 1 5 mX5_isAheadSomewhere := ⟨(wW_at 544 (by rfl) (by rfl)), (wW_at 85 (by rfl) (by rfl)), (wW_at 541 (by rfl) (by rfl)), (wW_at 542 (by rfl) (by rfl)), (wW_at 543 (by rfl) (by rfl)), ⟨by decide, by decide, by decide +kernel⟩, by decide, TX5, 6, rfl⟩
set_option maxRecDepth 20000 in
theorem cl_X5_39 : qCV RX5 39 1 5 mX5_leaves := ⟨(wW_at 548 (by rfl) (by rfl)), (wW_at 85 (by rfl) (by rfl)), (wW_at 545 (by rfl) (by rfl)), (wW_at 547 (by rfl) (by rfl)), (wW_at 18 (by rfl) (by rfl)), ⟨by decide, by decide, by decide +kernel⟩, by decide, TX5, 6, rfl⟩
set_option maxRecDepth 20000 in
theorem cl_X0_32 : qCV RX0 32 2 0 mX0_wouldBreach := ⟨(wW_at 552 (by rfl) (by rfl)), (wW_at 83 (by rfl) (by rfl)), (wW_at 549 (by rfl) (by rfl)), (wW_at 550 (by rfl) (by rfl)), (wW_at 551 (by rfl) (by rfl)), ⟨by decide, by decide, by decide +kernel⟩, by decide, TX0, 6, rfl⟩
set_option maxRecDepth 20000 in
theorem cl_X0_36 : qCV RX0 36 0 0 mX0_fillFewest := ⟨(wW_at 556 (by rfl) (by rfl)), (wW_at 83 (by rfl) (by rfl)), (wW_at 553 (by rfl) (by rfl)), (wW_at 555 (by rfl) (by rfl)), (wW_at 19 (by rfl) (by rfl)), ⟨by decide, by decide, by decide +kernel⟩, by decide, TX0, 6, rfl⟩
set_option maxRecDepth 20000 in
theorem cl_X0_51 : qCV RX0 51 2 0 mX0_fewestWith := ⟨(wW_at 560 (by rfl) (by rfl)), (wW_at 83 (by rfl) (by rfl)), (wW_at 557 (by rfl) (by rfl)), (wW_at 559 (by rfl) (by rfl)), (wW_at 20 (by rfl) (by rfl)), ⟨by decide, by decide, by decide +kernel⟩, by decide, TX0, 6, rfl⟩
set_option maxRecDepth 20000 in
theorem cl_X0_60 : qCS RX0 60 1 mJ6_bitCount_0f7a4 := ⟨(wW_at 440 (by rfl) (by rfl)), (wW_at 89 (by rfl) (by rfl)), (wW_at 561 (by rfl) (by rfl)), (wW_at 439 (by rfl) (by rfl)), ⟨by decide, by decide, by decide +kernel⟩⟩
set_option maxRecDepth 20000 in
theorem cl_X0_55 : Cond.methodLink RX0 55 Lib.Math.min.name ∈ wW := (wW_at 562 (by rfl) (by rfl))
set_option maxRecDepth 20000 in
theorem cl_X0_42 : qCV RX0 42 0 0 mX0_setOrder := ⟨(wW_at 566 (by rfl) (by rfl)), (wW_at 83 (by rfl) (by rfl)), (wW_at 563 (by rfl) (by rfl)), (wW_at 565 (by rfl) (by rfl)), (wW_at 21 (by rfl) (by rfl)), ⟨by decide, by decide, by decide +kernel⟩, by decide, TX0, 6, rfl⟩
set_option maxRecDepth 20000 in
theorem cl_X0_66 : qCV RX0 66 1 0 mX0_firstBehind := ⟨(wW_at 570 (by rfl) (by rfl)), (wW_at 83 (by rfl) (by rfl)), (wW_at 567 (by rfl) (by rfl)), (wW_at 569 (by rfl) (by rfl)), (wW_at 22 (by rfl) (by rfl)), ⟨by decide, by decide, by decide +kernel⟩, by decide, TX0, 6, rfl⟩
set_option maxRecDepth 20000 in
theorem cl_X4_64 : qCV RX4 64 0 4 mX4_planLanes := ⟨(wW_at 574 (by rfl) (by rfl)), (wW_at 81 (by rfl) (by rfl)), (wW_at 571 (by rfl) (by rfl)), (wW_at 573 (by rfl) (by rfl)), (wW_at 23 (by rfl) (by rfl)), ⟨by decide, by decide, by decide +kernel⟩, by decide, TX4, 7, rfl⟩
set_option maxRecDepth 20000 in
theorem cl_X4_115 : qCV RX4 115 0 1 mX1_clear := ⟨(wW_at 578 (by rfl) (by rfl)), (wW_at 84 (by rfl) (by rfl)), (wW_at 575 (by rfl) (by rfl)), (wW_at 576 (by rfl) (by rfl)), (wW_at 577 (by rfl) (by rfl)), ⟨by decide, by decide, by decide +kernel⟩, by decide, TX1, 3, rfl⟩
set_option maxRecDepth 20000 in
theorem cl_X1_22 : qCS RX1 22 2 mJ7_fill_53178 := ⟨(wW_at 209 (by rfl) (by rfl)), (wW_at 86 (by rfl) (by rfl)), (wW_at 579 (by rfl) (by rfl)), (wW_at 208 (by rfl) (by rfl)), ⟨by decide, by decide, by decide +kernel⟩⟩
set_option maxRecDepth 20000 in
theorem cl_X4_76 : qCV RX4 76 1 4 mX4_firstRow := ⟨(wW_at 583 (by rfl) (by rfl)), (wW_at 81 (by rfl) (by rfl)), (wW_at 580 (by rfl) (by rfl)), (wW_at 582 (by rfl) (by rfl)), (wW_at 24 (by rfl) (by rfl)), ⟨by decide, by decide, by decide +kernel⟩, by decide, TX4, 7, rfl⟩
set_option maxRecDepth 20000 in
theorem cl_X4_80 : qCV RX4 80 1 4 mX4_lastRow := ⟨(wW_at 587 (by rfl) (by rfl)), (wW_at 81 (by rfl) (by rfl)), (wW_at 584 (by rfl) (by rfl)), (wW_at 586 (by rfl) (by rfl)), (wW_at 25 (by rfl) (by rfl)), ⟨by decide, by decide, by decide +kernel⟩, by decide, TX4, 7, rfl⟩
set_option maxRecDepth 20000 in
theorem cl_X4_118 : qCV RX4 118 3 1 mX1_give := ⟨(wW_at 591 (by rfl) (by rfl)), (wW_at 84 (by rfl) (by rfl)), (wW_at 588 (by rfl) (by rfl)), (wW_at 589 (by rfl) (by rfl)), (wW_at 590 (by rfl) (by rfl)), ⟨by decide, by decide, by decide +kernel⟩, by decide, TX1, 3, rfl⟩
set_option maxRecDepth 20000 in
theorem cl_X1_28 : Cond.methodLink RX1 28 Lib.Math.max.name ∈ wW := (wW_at 592 (by rfl) (by rfl))
set_option maxRecDepth 20000 in
theorem cl_L_58 : qCV RL 58 1 7 mX7_row := ⟨(wW_at 596 (by rfl) (by rfl)), (wW_at 79 (by rfl) (by rfl)), (wW_at 593 (by rfl) (by rfl)), (wW_at 594 (by rfl) (by rfl)), (wW_at 595 (by rfl) (by rfl)), ⟨by decide, by decide, by decide +kernel⟩, by decide, TX7, 6, rfl⟩
set_option maxRecDepth 20000 in
theorem cl_X7_109 : qCV RX7 109 1 4 mX4_hasRow := ⟨(wW_at 600 (by rfl) (by rfl)), (wW_at 81 (by rfl) (by rfl)), (wW_at 597 (by rfl) (by rfl)), (wW_at 598 (by rfl) (by rfl)), (wW_at 599 (by rfl) (by rfl)), ⟨by decide, by decide, by decide +kernel⟩, by decide, TX4, 7, rfl⟩
set_option maxRecDepth 20000 in
theorem cl_X7_112 : qCV RX7 112 1 4 mX4_stationOf := ⟨(wW_at 604 (by rfl) (by rfl)), (wW_at 81 (by rfl) (by rfl)), (wW_at 601 (by rfl) (by rfl)), (wW_at 602 (by rfl) (by rfl)), (wW_at 603 (by rfl) (by rfl)), ⟨by decide, by decide, by decide +kernel⟩, by decide, TX4, 7, rfl⟩
set_option maxRecDepth 20000 in
theorem cl_L_62 : qCV RL 62 1 7 mX7_column := ⟨(wW_at 608 (by rfl) (by rfl)), (wW_at 79 (by rfl) (by rfl)), (wW_at 605 (by rfl) (by rfl)), (wW_at 606 (by rfl) (by rfl)), (wW_at 607 (by rfl) (by rfl)), ⟨by decide, by decide, by decide +kernel⟩, by decide, TX7, 6, rfl⟩
set_option maxRecDepth 20000 in
theorem cl_X7_115 : qCV RX7 115 1 4 mX4_hasColumn := ⟨(wW_at 612 (by rfl) (by rfl)), (wW_at 81 (by rfl) (by rfl)), (wW_at 609 (by rfl) (by rfl)), (wW_at 610 (by rfl) (by rfl)), (wW_at 611 (by rfl) (by rfl)), ⟨by decide, by decide, by decide +kernel⟩, by decide, TX4, 7, rfl⟩
set_option maxRecDepth 20000 in
theorem cl_X7_118 : qCV RX7 118 1 4 mX4_trainOf := ⟨(wW_at 616 (by rfl) (by rfl)), (wW_at 81 (by rfl) (by rfl)), (wW_at 613 (by rfl) (by rfl)), (wW_at 614 (by rfl) (by rfl)), (wW_at 615 (by rfl) (by rfl)), ⟨by decide, by decide, by decide +kernel⟩, by decide, TX4, 7, rfl⟩
set_option maxRecDepth 20000 in
theorem cl_L_66 : qCV RL 66 3 7 mX7_cell := ⟨(wW_at 620 (by rfl) (by rfl)), (wW_at 79 (by rfl) (by rfl)), (wW_at 617 (by rfl) (by rfl)), (wW_at 618 (by rfl) (by rfl)), (wW_at 619 (by rfl) (by rfl)), ⟨by decide, by decide, by decide +kernel⟩, by decide, TX7, 6, rfl⟩
set_option maxRecDepth 20000 in
theorem cl_X7_120 : qCV RX7 120 3 4 mX4_read := ⟨(wW_at 624 (by rfl) (by rfl)), (wW_at 81 (by rfl) (by rfl)), (wW_at 621 (by rfl) (by rfl)), (wW_at 622 (by rfl) (by rfl)), (wW_at 623 (by rfl) (by rfl)), ⟨by decide, by decide, by decide +kernel⟩, by decide, TX4, 7, rfl⟩
set_option maxRecDepth 20000 in
theorem cl_L_71 : qCV RL 71 1 7 mX7_breaches := ⟨(wW_at 628 (by rfl) (by rfl)), (wW_at 79 (by rfl) (by rfl)), (wW_at 625 (by rfl) (by rfl)), (wW_at 626 (by rfl) (by rfl)), (wW_at 627 (by rfl) (by rfl)), ⟨by decide, by decide, by decide +kernel⟩, by decide, TX7, 6, rfl⟩
set_option maxRecDepth 20000 in
theorem cl_X7_123 : qCV RX7 123 0 4 mX4_isMade := ⟨(wW_at 632 (by rfl) (by rfl)), (wW_at 81 (by rfl) (by rfl)), (wW_at 629 (by rfl) (by rfl)), (wW_at 630 (by rfl) (by rfl)), (wW_at 631 (by rfl) (by rfl)), ⟨by decide, by decide, by decide +kernel⟩, by decide, TX4, 7, rfl⟩
set_option maxRecDepth 20000 in
theorem cl_X7_127 : qCV RX7 127 0 4 mX4_countBreaches := ⟨(wW_at 636 (by rfl) (by rfl)), (wW_at 81 (by rfl) (by rfl)), (wW_at 633 (by rfl) (by rfl)), (wW_at 634 (by rfl) (by rfl)), (wW_at 635 (by rfl) (by rfl)), ⟨by decide, by decide, by decide +kernel⟩, by decide, TX4, 7, rfl⟩
set_option maxRecDepth 20000 in
theorem cl_X7_130 : qCV RX7 130 0 4 mX4_countKnots := ⟨(wW_at 640 (by rfl) (by rfl)), (wW_at 81 (by rfl) (by rfl)), (wW_at 637 (by rfl) (by rfl)), (wW_at 638 (by rfl) (by rfl)), (wW_at 639 (by rfl) (by rfl)), ⟨by decide, by decide, by decide +kernel⟩, by decide, TX4, 7, rfl⟩
set_option maxRecDepth 20000 in
theorem cl_L_75 : qCV RL 75 2 7 mX7_breach := ⟨(wW_at 644 (by rfl) (by rfl)), (wW_at 79 (by rfl) (by rfl)), (wW_at 641 (by rfl) (by rfl)), (wW_at 642 (by rfl) (by rfl)), (wW_at 643 (by rfl) (by rfl)), ⟨by decide, by decide, by decide +kernel⟩, by decide, TX7, 6, rfl⟩
set_option maxRecDepth 20000 in
theorem cl_X7_133 : qCV RX7 133 2 4 mX4_isBreach := ⟨(wW_at 648 (by rfl) (by rfl)), (wW_at 81 (by rfl) (by rfl)), (wW_at 645 (by rfl) (by rfl)), (wW_at 646 (by rfl) (by rfl)), (wW_at 647 (by rfl) (by rfl)), ⟨by decide, by decide, by decide +kernel⟩, by decide, TX4, 7, rfl⟩
set_option maxRecDepth 20000 in
theorem cl_X4_98 : qCV RX4 98 2 0 mX0_wouldBreach := ⟨(wW_at 552 (by rfl) (by rfl)), (wW_at 83 (by rfl) (by rfl)), (wW_at 649 (by rfl) (by rfl)), (wW_at 550 (by rfl) (by rfl)), (wW_at 551 (by rfl) (by rfl)), ⟨by decide, by decide, by decide +kernel⟩, by decide, TX0, 6, rfl⟩
set_option maxRecDepth 20000 in
theorem cl_L_79 : qCV RL 79 0 7 mX7_lanes := ⟨(wW_at 653 (by rfl) (by rfl)), (wW_at 79 (by rfl) (by rfl)), (wW_at 650 (by rfl) (by rfl)), (wW_at 651 (by rfl) (by rfl)), (wW_at 652 (by rfl) (by rfl)), ⟨by decide, by decide, by decide +kernel⟩, by decide, TX7, 6, rfl⟩
set_option maxRecDepth 20000 in
theorem cl_X7_137 : qCV RX7 137 0 4 mX4_laneCount := ⟨(wW_at 657 (by rfl) (by rfl)), (wW_at 81 (by rfl) (by rfl)), (wW_at 654 (by rfl) (by rfl)), (wW_at 655 (by rfl) (by rfl)), (wW_at 656 (by rfl) (by rfl)), ⟨by decide, by decide, by decide +kernel⟩, by decide, TX4, 7, rfl⟩
set_option maxRecDepth 20000 in
theorem cl_L_84 : qCV RL 84 1 7 mX7_lane := ⟨(wW_at 661 (by rfl) (by rfl)), (wW_at 79 (by rfl) (by rfl)), (wW_at 658 (by rfl) (by rfl)), (wW_at 659 (by rfl) (by rfl)), (wW_at 660 (by rfl) (by rfl)), ⟨by decide, by decide, by decide +kernel⟩, by decide, TX7, 6, rfl⟩
set_option maxRecDepth 20000 in
theorem cl_X7_140 : qCV RX7 140 1 4 mX4_laneOf := ⟨(wW_at 665 (by rfl) (by rfl)), (wW_at 81 (by rfl) (by rfl)), (wW_at 662 (by rfl) (by rfl)), (wW_at 663 (by rfl) (by rfl)), (wW_at 664 (by rfl) (by rfl)), ⟨by decide, by decide, by decide +kernel⟩, by decide, TX4, 7, rfl⟩
set_option maxRecDepth 20000 in
theorem cl_L_88 : qCV RL 88 5 7 mX7_way := ⟨(wW_at 669 (by rfl) (by rfl)), (wW_at 79 (by rfl) (by rfl)), (wW_at 666 (by rfl) (by rfl)), (wW_at 667 (by rfl) (by rfl)), (wW_at 668 (by rfl) (by rfl)), ⟨by decide, by decide, by decide +kernel⟩, by decide, TX7, 6, rfl⟩
set_option maxRecDepth 20000 in
theorem cl_X7_143 : qCS RX7 143 3 mX7_canTravel := ⟨(wW_at 672 (by rfl) (by rfl)), (wW_at 79 (by rfl) (by rfl)), (wW_at 670 (by rfl) (by rfl)), (wW_at 671 (by rfl) (by rfl)), ⟨by decide, by decide, by decide +kernel⟩⟩
set_option maxRecDepth 20000 in
theorem cl_X7_146 : qCV RX7 146 4 6 mX6_setOut := ⟨(wW_at 676 (by rfl) (by rfl)), (wW_at 87 (by rfl) (by rfl)), (wW_at 673 (by rfl) (by rfl)), (wW_at 674 (by rfl) (by rfl)), (wW_at 675 (by rfl) (by rfl)), ⟨by decide, by decide, by decide +kernel⟩, by decide, TX6, 16, rfl⟩
set_option maxRecDepth 20000 in
theorem cl_X7_150 : qCV RX7 150 3 6 mX6_findBest := ⟨(wW_at 680 (by rfl) (by rfl)), (wW_at 87 (by rfl) (by rfl)), (wW_at 677 (by rfl) (by rfl)), (wW_at 678 (by rfl) (by rfl)), (wW_at 679 (by rfl) (by rfl)), ⟨by decide, by decide, by decide +kernel⟩, by decide, TX6, 16, rfl⟩
set_option maxRecDepth 20000 in
theorem cl_X6_52 : qCV RX6 52 3 6 mX6_soonestAt := ⟨(wW_at 684 (by rfl) (by rfl)), (wW_at 87 (by rfl) (by rfl)), (wW_at 681 (by rfl) (by rfl)), (wW_at 683 (by rfl) (by rfl)), (wW_at 26 (by rfl) (by rfl)), ⟨by decide, by decide, by decide +kernel⟩, by decide, TX6, 16, rfl⟩
set_option maxRecDepth 20000 in
theorem cl_X6_97 : qCS RX6 97 2 mJ7_fill_53178 := ⟨(wW_at 209 (by rfl) (by rfl)), (wW_at 86 (by rfl) (by rfl)), (wW_at 686 (by rfl) (by rfl)), (wW_at 208 (by rfl) (by rfl)), ⟨by decide, by decide, by decide +kernel⟩⟩
set_option maxRecDepth 20000 in
theorem cl_X6_103 : qCV RX6 103 1 5 mX5_runsOn := ⟨(wW_at 690 (by rfl) (by rfl)), (wW_at 85 (by rfl) (by rfl)), (wW_at 687 (by rfl) (by rfl)), (wW_at 688 (by rfl) (by rfl)), (wW_at 689 (by rfl) (by rfl)), ⟨by decide, by decide, by decide +kernel⟩, by decide, TX5, 6, rfl⟩
set_option maxRecDepth 20000 in
theorem cl_X6_107 : qCV RX6 107 1 6 mX6_ride := ⟨(wW_at 694 (by rfl) (by rfl)), (wW_at 87 (by rfl) (by rfl)), (wW_at 691 (by rfl) (by rfl)), (wW_at 693 (by rfl) (by rfl)), (wW_at 27 (by rfl) (by rfl)), ⟨by decide, by decide, by decide +kernel⟩, by decide, TX6, 16, rfl⟩
set_option maxRecDepth 20000 in
theorem cl_X6_60 : qCV RX6 60 3 6 mX6_countLegs := ⟨(wW_at 698 (by rfl) (by rfl)), (wW_at 87 (by rfl) (by rfl)), (wW_at 695 (by rfl) (by rfl)), (wW_at 697 (by rfl) (by rfl)), (wW_at 28 (by rfl) (by rfl)), ⟨by decide, by decide, by decide +kernel⟩, by decide, TX6, 16, rfl⟩
set_option maxRecDepth 20000 in
theorem cl_X6_114 : qCV RX6 114 2 6 mX6_lastBoardTo := ⟨(wW_at 702 (by rfl) (by rfl)), (wW_at 87 (by rfl) (by rfl)), (wW_at 699 (by rfl) (by rfl)), (wW_at 701 (by rfl) (by rfl)), (wW_at 29 (by rfl) (by rfl)), ⟨by decide, by decide, by decide +kernel⟩, by decide, TX6, 16, rfl⟩
set_option maxRecDepth 20000 in
theorem cl_X6_118 : qCV RX6 118 2 6 mX6_firstTrain := ⟨(wW_at 706 (by rfl) (by rfl)), (wW_at 87 (by rfl) (by rfl)), (wW_at 703 (by rfl) (by rfl)), (wW_at 705 (by rfl) (by rfl)), (wW_at 30 (by rfl) (by rfl)), ⟨by decide, by decide, by decide +kernel⟩, by decide, TX6, 16, rfl⟩
set_option maxRecDepth 20000 in
theorem cl_X6_121 : qCV RX6 121 2 6 mX6_lastBoardBefore := ⟨(wW_at 710 (by rfl) (by rfl)), (wW_at 87 (by rfl) (by rfl)), (wW_at 707 (by rfl) (by rfl)), (wW_at 709 (by rfl) (by rfl)), (wW_at 31 (by rfl) (by rfl)), ⟨by decide, by decide, by decide +kernel⟩, by decide, TX6, 16, rfl⟩
set_option maxRecDepth 20000 in
theorem cl_X6_127 : qCV RX6 127 4 6 mX6_canChange := ⟨(wW_at 714 (by rfl) (by rfl)), (wW_at 87 (by rfl) (by rfl)), (wW_at 711 (by rfl) (by rfl)), (wW_at 713 (by rfl) (by rfl)), (wW_at 32 (by rfl) (by rfl)), ⟨by decide, by decide, by decide +kernel⟩, by decide, TX6, 16, rfl⟩
set_option maxRecDepth 20000 in
theorem cl_X6_64 : qCV RX6 64 2 6 mX6_chooseTrains := ⟨(wW_at 718 (by rfl) (by rfl)), (wW_at 87 (by rfl) (by rfl)), (wW_at 715 (by rfl) (by rfl)), (wW_at 717 (by rfl) (by rfl)), (wW_at 33 (by rfl) (by rfl)), ⟨by decide, by decide, by decide +kernel⟩, by decide, TX6, 16, rfl⟩
set_option maxRecDepth 20000 in
theorem cl_X6_131 : Cond.methodLink RX6 131 Lib.Math.max.name ∈ wW := (wW_at 719 (by rfl) (by rfl))
set_option maxRecDepth 20000 in
theorem cl_X6_136 : qCV RX6 136 1 6 mX6_chooseTrain := ⟨(wW_at 723 (by rfl) (by rfl)), (wW_at 87 (by rfl) (by rfl)), (wW_at 720 (by rfl) (by rfl)), (wW_at 722 (by rfl) (by rfl)), (wW_at 34 (by rfl) (by rfl)), ⟨by decide, by decide, by decide +kernel⟩, by decide, TX6, 16, rfl⟩
set_option maxRecDepth 20000 in
theorem cl_X6_139 : qCV RX6 139 4 6 mX6_firstBoard := ⟨(wW_at 727 (by rfl) (by rfl)), (wW_at 87 (by rfl) (by rfl)), (wW_at 724 (by rfl) (by rfl)), (wW_at 726 (by rfl) (by rfl)), (wW_at 35 (by rfl) (by rfl)), ⟨by decide, by decide, by decide +kernel⟩, by decide, TX6, 16, rfl⟩
set_option maxRecDepth 20000 in
theorem cl_X6_143 : Cond.methodLink RX6 143 Lib.Math.min.name ∈ wW := (wW_at 728 (by rfl) (by rfl))
set_option maxRecDepth 20000 in
theorem cl_X6_68 : qCV RX6 68 1 6 mX6_chooseStations := ⟨(wW_at 732 (by rfl) (by rfl)), (wW_at 87 (by rfl) (by rfl)), (wW_at 729 (by rfl) (by rfl)), (wW_at 731 (by rfl) (by rfl)), (wW_at 36 (by rfl) (by rfl)), ⟨by decide, by decide, by decide +kernel⟩, by decide, TX6, 16, rfl⟩
set_option maxRecDepth 20000 in
theorem cl_X6_146 : qCV RX6 146 3 6 mX6_limitBefore := ⟨(wW_at 736 (by rfl) (by rfl)), (wW_at 87 (by rfl) (by rfl)), (wW_at 733 (by rfl) (by rfl)), (wW_at 735 (by rfl) (by rfl)), (wW_at 37 (by rfl) (by rfl)), ⟨by decide, by decide, by decide +kernel⟩, by decide, TX6, 16, rfl⟩
set_option maxRecDepth 20000 in
theorem cl_X6_150 : qCV RX6 150 1 6 mX6_leastChange := ⟨(wW_at 740 (by rfl) (by rfl)), (wW_at 87 (by rfl) (by rfl)), (wW_at 737 (by rfl) (by rfl)), (wW_at 739 (by rfl) (by rfl)), (wW_at 38 (by rfl) (by rfl)), ⟨by decide, by decide, by decide +kernel⟩, by decide, TX6, 16, rfl⟩
set_option maxRecDepth 20000 in
theorem cl_X7_153 : qCV RX7 153 1 6 mX6_read := ⟨(wW_at 744 (by rfl) (by rfl)), (wW_at 87 (by rfl) (by rfl)), (wW_at 741 (by rfl) (by rfl)), (wW_at 742 (by rfl) (by rfl)), (wW_at 743 (by rfl) (by rfl)), ⟨by decide, by decide, by decide +kernel⟩, by decide, TX6, 16, rfl⟩
set_option maxRecDepth 20000 in
theorem cl_X6_75 : qCV RX6 75 2 6 mX6_readLeg := ⟨(wW_at 748 (by rfl) (by rfl)), (wW_at 87 (by rfl) (by rfl)), (wW_at 745 (by rfl) (by rfl)), (wW_at 747 (by rfl) (by rfl)), (wW_at 39 (by rfl) (by rfl)), ⟨by decide, by decide, by decide +kernel⟩, by decide, TX6, 16, rfl⟩
set_option maxRecDepth 20000 in
theorem cl_L_93 : qCV RL 93 3 7 mX7_departures := ⟨(wW_at 752 (by rfl) (by rfl)), (wW_at 79 (by rfl) (by rfl)), (wW_at 749 (by rfl) (by rfl)), (wW_at 750 (by rfl) (by rfl)), (wW_at 751 (by rfl) (by rfl)), ⟨by decide, by decide, by decide +kernel⟩, by decide, TX7, 6, rfl⟩
set_option maxRecDepth 20000 in
theorem cl_X7_154 : qCV RX7 154 2 6 mX6_findDepartures := ⟨(wW_at 756 (by rfl) (by rfl)), (wW_at 87 (by rfl) (by rfl)), (wW_at 753 (by rfl) (by rfl)), (wW_at 754 (by rfl) (by rfl)), (wW_at 755 (by rfl) (by rfl)), ⟨by decide, by decide, by decide +kernel⟩, by decide, TX6, 16, rfl⟩
set_option maxRecDepth 20000 in
theorem cl_X6_79 : qCV RX6 79 1 6 mX6_collectMinutes := ⟨(wW_at 760 (by rfl) (by rfl)), (wW_at 87 (by rfl) (by rfl)), (wW_at 757 (by rfl) (by rfl)), (wW_at 759 (by rfl) (by rfl)), (wW_at 40 (by rfl) (by rfl)), ⟨by decide, by decide, by decide +kernel⟩, by decide, TX6, 16, rfl⟩
set_option maxRecDepth 20000 in
theorem cl_X6_154 : qCV RX6 154 1 6 mX6_insertMinute := ⟨(wW_at 764 (by rfl) (by rfl)), (wW_at 87 (by rfl) (by rfl)), (wW_at 761 (by rfl) (by rfl)), (wW_at 763 (by rfl) (by rfl)), (wW_at 41 (by rfl) (by rfl)), ⟨by decide, by decide, by decide +kernel⟩, by decide, TX6, 16, rfl⟩
set_option maxRecDepth 20000 in
theorem cl_L_97 : qCV RL 97 4 7 mX7_departure := ⟨(wW_at 768 (by rfl) (by rfl)), (wW_at 79 (by rfl) (by rfl)), (wW_at 765 (by rfl) (by rfl)), (wW_at 766 (by rfl) (by rfl)), (wW_at 767 (by rfl) (by rfl)), ⟨by decide, by decide, by decide +kernel⟩, by decide, TX7, 6, rfl⟩
set_option maxRecDepth 20000 in
theorem cl_X7_158 : qCV RX7 158 1 6 mX6_departureAt := ⟨(wW_at 772 (by rfl) (by rfl)), (wW_at 87 (by rfl) (by rfl)), (wW_at 769 (by rfl) (by rfl)), (wW_at 770 (by rfl) (by rfl)), (wW_at 771 (by rfl) (by rfl)), ⟨by decide, by decide, by decide +kernel⟩, by decide, TX6, 16, rfl⟩
set_option maxRecDepth 20000 in
theorem cl_L_12 : qCI RL 12 0 mX8_init := ⟨(wW_at 777 (by rfl) (by rfl)), (wW_at 88 (by rfl) (by rfl)), (wW_at 775 (by rfl) (by rfl)), (wW_at 776 (by rfl) (by rfl)), rfl, ⟨by decide, by decide, by decide +kernel⟩, rfl⟩
set_option maxRecDepth 20000 in
theorem cl_X8_1 : Cond.methodLink RX8 1 objectInit ∈ wW := (wW_at 778 (by rfl) (by rfl))
set_option maxRecDepth 20000 in
theorem cl_L_17 : qCV RL 17 1 8 mX8_train := ⟨(wW_at 890 (by rfl) (by rfl)), (wW_at 88 (by rfl) (by rfl)), (wW_at 887 (by rfl) (by rfl)), (wW_at 888 (by rfl) (by rfl)), (wW_at 889 (by rfl) (by rfl)), ⟨by decide, by decide, by decide +kernel⟩, by decide, TX8, 35, rfl⟩
set_option maxRecDepth 20000 in
theorem cl_X8_100 : qCV RX8 100 1 8 mX8_isDays := ⟨(wW_at 894 (by rfl) (by rfl)), (wW_at 88 (by rfl) (by rfl)), (wW_at 891 (by rfl) (by rfl)), (wW_at 893 (by rfl) (by rfl)), (wW_at 42 (by rfl) (by rfl)), ⟨by decide, by decide, by decide +kernel⟩, by decide, TX8, 35, rfl⟩
set_option maxRecDepth 20000 in
theorem cl_L_22 : qCV RL 22 4 8 mX8_stop := ⟨(wW_at 898 (by rfl) (by rfl)), (wW_at 88 (by rfl) (by rfl)), (wW_at 895 (by rfl) (by rfl)), (wW_at 896 (by rfl) (by rfl)), (wW_at 897 (by rfl) (by rfl)), ⟨by decide, by decide, by decide +kernel⟩, by decide, TX8, 35, rfl⟩
set_option maxRecDepth 20000 in
theorem cl_X8_104 : qCV RX8 104 1 8 mX8_isTrain := ⟨(wW_at 902 (by rfl) (by rfl)), (wW_at 88 (by rfl) (by rfl)), (wW_at 899 (by rfl) (by rfl)), (wW_at 901 (by rfl) (by rfl)), (wW_at 43 (by rfl) (by rfl)), ⟨by decide, by decide, by decide +kernel⟩, by decide, TX8, 35, rfl⟩
set_option maxRecDepth 20000 in
theorem cl_X8_107 : qCV RX8 107 1 8 mX8_isStation := ⟨(wW_at 906 (by rfl) (by rfl)), (wW_at 88 (by rfl) (by rfl)), (wW_at 903 (by rfl) (by rfl)), (wW_at 905 (by rfl) (by rfl)), (wW_at 44 (by rfl) (by rfl)), ⟨by decide, by decide, by decide +kernel⟩, by decide, TX8, 35, rfl⟩
set_option maxRecDepth 20000 in
theorem cl_X8_110 : qCV RX8 110 1 8 mX8_isMinute := ⟨(wW_at 910 (by rfl) (by rfl)), (wW_at 88 (by rfl) (by rfl)), (wW_at 907 (by rfl) (by rfl)), (wW_at 909 (by rfl) (by rfl)), (wW_at 45 (by rfl) (by rfl)), ⟨by decide, by decide, by decide +kernel⟩, by decide, TX8, 35, rfl⟩
set_option maxRecDepth 20000 in
theorem cl_X8_113 : qCV RX8 113 2 8 mX8_stopAt := ⟨(wW_at 914 (by rfl) (by rfl)), (wW_at 88 (by rfl) (by rfl)), (wW_at 911 (by rfl) (by rfl)), (wW_at 913 (by rfl) (by rfl)), (wW_at 46 (by rfl) (by rfl)), ⟨by decide, by decide, by decide +kernel⟩, by decide, TX8, 35, rfl⟩
set_option maxRecDepth 20000 in
theorem cl_L_27 : qCV RL 27 2 8 mX8_days := ⟨(wW_at 918 (by rfl) (by rfl)), (wW_at 88 (by rfl) (by rfl)), (wW_at 915 (by rfl) (by rfl)), (wW_at 916 (by rfl) (by rfl)), (wW_at 917 (by rfl) (by rfl)), ⟨by decide, by decide, by decide +kernel⟩, by decide, TX8, 35, rfl⟩
set_option maxRecDepth 20000 in
theorem cl_L_32 : qCV RL 32 1 8 mX8_cut := ⟨(wW_at 922 (by rfl) (by rfl)), (wW_at 88 (by rfl) (by rfl)), (wW_at 919 (by rfl) (by rfl)), (wW_at 920 (by rfl) (by rfl)), (wW_at 921 (by rfl) (by rfl)), ⟨by decide, by decide, by decide +kernel⟩, by decide, TX8, 35, rfl⟩
set_option maxRecDepth 20000 in
theorem cl_L_36 : qCV RL 36 2 8 mX8_shift := ⟨(wW_at 926 (by rfl) (by rfl)), (wW_at 88 (by rfl) (by rfl)), (wW_at 923 (by rfl) (by rfl)), (wW_at 924 (by rfl) (by rfl)), (wW_at 925 (by rfl) (by rfl)), ⟨by decide, by decide, by decide +kernel⟩, by decide, TX8, 35, rfl⟩
set_option maxRecDepth 20000 in
theorem cl_L_40 : qCV RL 40 2 8 mX8_sign := ⟨(wW_at 930 (by rfl) (by rfl)), (wW_at 88 (by rfl) (by rfl)), (wW_at 927 (by rfl) (by rfl)), (wW_at 928 (by rfl) (by rfl)), (wW_at 929 (by rfl) (by rfl)), ⟨by decide, by decide, by decide +kernel⟩, by decide, TX8, 35, rfl⟩
set_option maxRecDepth 20000 in
theorem cl_L_44 : qCV RL 44 1 8 mX8_change := ⟨(wW_at 934 (by rfl) (by rfl)), (wW_at 88 (by rfl) (by rfl)), (wW_at 931 (by rfl) (by rfl)), (wW_at 932 (by rfl) (by rfl)), (wW_at 933 (by rfl) (by rfl)), ⟨by decide, by decide, by decide +kernel⟩, by decide, TX8, 35, rfl⟩
set_option maxRecDepth 20000 in
theorem cl_L_48 : qCV RL 48 1 8 mX8_about := ⟨(wW_at 938 (by rfl) (by rfl)), (wW_at 88 (by rfl) (by rfl)), (wW_at 935 (by rfl) (by rfl)), (wW_at 936 (by rfl) (by rfl)), (wW_at 937 (by rfl) (by rfl)), ⟨by decide, by decide, by decide +kernel⟩, by decide, TX8, 35, rfl⟩
set_option maxRecDepth 20000 in
theorem cl_L_53 : qCV RL 53 2 8 mX8_signs := ⟨(wW_at 942 (by rfl) (by rfl)), (wW_at 88 (by rfl) (by rfl)), (wW_at 939 (by rfl) (by rfl)), (wW_at 940 (by rfl) (by rfl)), (wW_at 941 (by rfl) (by rfl)), ⟨by decide, by decide, by decide +kernel⟩, by decide, TX8, 35, rfl⟩
set_option maxRecDepth 20000 in
theorem cl_X8_123 : qCV RX8 123 1 8 mX8_ones := ⟨(wW_at 946 (by rfl) (by rfl)), (wW_at 88 (by rfl) (by rfl)), (wW_at 943 (by rfl) (by rfl)), (wW_at 945 (by rfl) (by rfl)), (wW_at 47 (by rfl) (by rfl)), ⟨by decide, by decide, by decide +kernel⟩, by decide, TX8, 35, rfl⟩
set_option maxRecDepth 20000 in
theorem cl_L_57 : qCV RL 57 1 8 mX8_table := ⟨(wW_at 950 (by rfl) (by rfl)), (wW_at 88 (by rfl) (by rfl)), (wW_at 947 (by rfl) (by rfl)), (wW_at 948 (by rfl) (by rfl)), (wW_at 949 (by rfl) (by rfl)), ⟨by decide, by decide, by decide +kernel⟩, by decide, TX8, 35, rfl⟩
set_option maxRecDepth 20000 in
theorem cl_X8_167 : qCV RX8 167 0 8 mX8_findRows := ⟨(wW_at 954 (by rfl) (by rfl)), (wW_at 88 (by rfl) (by rfl)), (wW_at 951 (by rfl) (by rfl)), (wW_at 953 (by rfl) (by rfl)), (wW_at 48 (by rfl) (by rfl)), ⟨by decide, by decide, by decide +kernel⟩, by decide, TX8, 35, rfl⟩
set_option maxRecDepth 20000 in
theorem cl_X8_130 : qCV RX8 130 1 8 mX8_isPlace := ⟨(wW_at 958 (by rfl) (by rfl)), (wW_at 88 (by rfl) (by rfl)), (wW_at 955 (by rfl) (by rfl)), (wW_at 957 (by rfl) (by rfl)), (wW_at 49 (by rfl) (by rfl)), ⟨by decide, by decide, by decide +kernel⟩, by decide, TX8, 35, rfl⟩
set_option maxRecDepth 20000 in
theorem cl_X8_127 : qCV RX8 127 2 8 mX8_digit := ⟨(wW_at 962 (by rfl) (by rfl)), (wW_at 88 (by rfl) (by rfl)), (wW_at 959 (by rfl) (by rfl)), (wW_at 961 (by rfl) (by rfl)), (wW_at 50 (by rfl) (by rfl)), ⟨by decide, by decide, by decide +kernel⟩, by decide, TX8, 35, rfl⟩
set_option maxRecDepth 20000 in
theorem cl_X8_133 : qCV RX8 133 2 8 mX8_behind := ⟨(wW_at 966 (by rfl) (by rfl)), (wW_at 88 (by rfl) (by rfl)), (wW_at 963 (by rfl) (by rfl)), (wW_at 965 (by rfl) (by rfl)), (wW_at 51 (by rfl) (by rfl)), ⟨by decide, by decide, by decide +kernel⟩, by decide, TX8, 35, rfl⟩
set_option maxRecDepth 20000 in
theorem cl_X8_170 : qCV RX8 170 0 8 mX8_findColumns := ⟨(wW_at 970 (by rfl) (by rfl)), (wW_at 88 (by rfl) (by rfl)), (wW_at 967 (by rfl) (by rfl)), (wW_at 969 (by rfl) (by rfl)), (wW_at 52 (by rfl) (by rfl)), ⟨by decide, by decide, by decide +kernel⟩, by decide, TX8, 35, rfl⟩
set_option maxRecDepth 20000 in
theorem cl_X8_147 : qCV RX8 147 1 8 mX8_breachesOf := ⟨(wW_at 974 (by rfl) (by rfl)), (wW_at 88 (by rfl) (by rfl)), (wW_at 971 (by rfl) (by rfl)), (wW_at 973 (by rfl) (by rfl)), (wW_at 53 (by rfl) (by rfl)), ⟨by decide, by decide, by decide +kernel⟩, by decide, TX8, 35, rfl⟩
set_option maxRecDepth 20000 in
theorem cl_X8_139 : qCV RX8 139 2 8 mX8_isBreach := ⟨(wW_at 978 (by rfl) (by rfl)), (wW_at 88 (by rfl) (by rfl)), (wW_at 975 (by rfl) (by rfl)), (wW_at 977 (by rfl) (by rfl)), (wW_at 54 (by rfl) (by rfl)), ⟨by decide, by decide, by decide +kernel⟩, by decide, TX8, 35, rfl⟩
set_option maxRecDepth 20000 in
theorem cl_X8_136 : qCV RX8 136 2 8 mX8_leaves := ⟨(wW_at 982 (by rfl) (by rfl)), (wW_at 88 (by rfl) (by rfl)), (wW_at 979 (by rfl) (by rfl)), (wW_at 981 (by rfl) (by rfl)), (wW_at 55 (by rfl) (by rfl)), ⟨by decide, by decide, by decide +kernel⟩, by decide, TX8, 35, rfl⟩
set_option maxRecDepth 20000 in
theorem cl_X8_151 : qCV RX8 151 0 8 mX8_goesOn := ⟨(wW_at 986 (by rfl) (by rfl)), (wW_at 88 (by rfl) (by rfl)), (wW_at 983 (by rfl) (by rfl)), (wW_at 985 (by rfl) (by rfl)), (wW_at 56 (by rfl) (by rfl)), ⟨by decide, by decide, by decide +kernel⟩, by decide, TX8, 35, rfl⟩
set_option maxRecDepth 20000 in
theorem cl_X8_143 : qCV RX8 143 2 8 mX8_swap := ⟨(wW_at 990 (by rfl) (by rfl)), (wW_at 88 (by rfl) (by rfl)), (wW_at 987 (by rfl) (by rfl)), (wW_at 989 (by rfl) (by rfl)), (wW_at 57 (by rfl) (by rfl)), ⟨by decide, by decide, by decide +kernel⟩, by decide, TX8, 35, rfl⟩
set_option maxRecDepth 20000 in
theorem cl_X8_173 : qCV RX8 173 0 8 mX8_findLanes := ⟨(wW_at 994 (by rfl) (by rfl)), (wW_at 88 (by rfl) (by rfl)), (wW_at 991 (by rfl) (by rfl)), (wW_at 993 (by rfl) (by rfl)), (wW_at 58 (by rfl) (by rfl)), ⟨by decide, by decide, by decide +kernel⟩, by decide, TX8, 35, rfl⟩
set_option maxRecDepth 20000 in
theorem cl_X8_158 : qCV RX8 158 1 8 mX8_first := ⟨(wW_at 998 (by rfl) (by rfl)), (wW_at 88 (by rfl) (by rfl)), (wW_at 995 (by rfl) (by rfl)), (wW_at 997 (by rfl) (by rfl)), (wW_at 59 (by rfl) (by rfl)), ⟨by decide, by decide, by decide +kernel⟩, by decide, TX8, 35, rfl⟩
set_option maxRecDepth 20000 in
theorem cl_X8_161 : qCV RX8 161 2 8 mX8_isFree := ⟨(wW_at 1002 (by rfl) (by rfl)), (wW_at 88 (by rfl) (by rfl)), (wW_at 999 (by rfl) (by rfl)), (wW_at 1001 (by rfl) (by rfl)), (wW_at 60 (by rfl) (by rfl)), ⟨by decide, by decide, by decide +kernel⟩, by decide, TX8, 35, rfl⟩
set_option maxRecDepth 20000 in
theorem cl_X8_164 : qCV RX8 164 1 8 mX8_last := ⟨(wW_at 1006 (by rfl) (by rfl)), (wW_at 88 (by rfl) (by rfl)), (wW_at 1003 (by rfl) (by rfl)), (wW_at 1005 (by rfl) (by rfl)), (wW_at 61 (by rfl) (by rfl)), ⟨by decide, by decide, by decide +kernel⟩, by decide, TX8, 35, rfl⟩
set_option maxRecDepth 20000 in
theorem cl_L_61 : qCV RL 61 1 8 mX8_row := ⟨(wW_at 1010 (by rfl) (by rfl)), (wW_at 88 (by rfl) (by rfl)), (wW_at 1007 (by rfl) (by rfl)), (wW_at 1008 (by rfl) (by rfl)), (wW_at 1009 (by rfl) (by rfl)), ⟨by decide, by decide, by decide +kernel⟩, by decide, TX8, 35, rfl⟩
set_option maxRecDepth 20000 in
theorem cl_L_65 : qCV RL 65 1 8 mX8_column := ⟨(wW_at 1014 (by rfl) (by rfl)), (wW_at 88 (by rfl) (by rfl)), (wW_at 1011 (by rfl) (by rfl)), (wW_at 1012 (by rfl) (by rfl)), (wW_at 1013 (by rfl) (by rfl)), ⟨by decide, by decide, by decide +kernel⟩, by decide, TX8, 35, rfl⟩
set_option maxRecDepth 20000 in
theorem cl_X8_176 : qCV RX8 176 1 8 mX8_isColumn := ⟨(wW_at 1018 (by rfl) (by rfl)), (wW_at 88 (by rfl) (by rfl)), (wW_at 1015 (by rfl) (by rfl)), (wW_at 1017 (by rfl) (by rfl)), (wW_at 62 (by rfl) (by rfl)), ⟨by decide, by decide, by decide +kernel⟩, by decide, TX8, 35, rfl⟩
set_option maxRecDepth 20000 in
theorem cl_L_70 : qCV RL 70 3 8 mX8_cell := ⟨(wW_at 1022 (by rfl) (by rfl)), (wW_at 88 (by rfl) (by rfl)), (wW_at 1019 (by rfl) (by rfl)), (wW_at 1020 (by rfl) (by rfl)), (wW_at 1021 (by rfl) (by rfl)), ⟨by decide, by decide, by decide +kernel⟩, by decide, TX8, 35, rfl⟩
set_option maxRecDepth 20000 in
theorem cl_L_74 : qCV RL 74 1 8 mX8_breaches := ⟨(wW_at 1026 (by rfl) (by rfl)), (wW_at 88 (by rfl) (by rfl)), (wW_at 1023 (by rfl) (by rfl)), (wW_at 1024 (by rfl) (by rfl)), (wW_at 1025 (by rfl) (by rfl)), ⟨by decide, by decide, by decide +kernel⟩, by decide, TX8, 35, rfl⟩
set_option maxRecDepth 20000 in
theorem cl_L_78 : qCV RL 78 2 8 mX8_breach := ⟨(wW_at 1030 (by rfl) (by rfl)), (wW_at 88 (by rfl) (by rfl)), (wW_at 1027 (by rfl) (by rfl)), (wW_at 1028 (by rfl) (by rfl)), (wW_at 1029 (by rfl) (by rfl)), ⟨by decide, by decide, by decide +kernel⟩, by decide, TX8, 35, rfl⟩
set_option maxRecDepth 20000 in
theorem cl_L_83 : qCV RL 83 0 8 mX8_lanes := ⟨(wW_at 1034 (by rfl) (by rfl)), (wW_at 88 (by rfl) (by rfl)), (wW_at 1031 (by rfl) (by rfl)), (wW_at 1032 (by rfl) (by rfl)), (wW_at 1033 (by rfl) (by rfl)), ⟨by decide, by decide, by decide +kernel⟩, by decide, TX8, 35, rfl⟩
set_option maxRecDepth 20000 in
theorem cl_L_87 : qCV RL 87 1 8 mX8_lane := ⟨(wW_at 1038 (by rfl) (by rfl)), (wW_at 88 (by rfl) (by rfl)), (wW_at 1035 (by rfl) (by rfl)), (wW_at 1036 (by rfl) (by rfl)), (wW_at 1037 (by rfl) (by rfl)), ⟨by decide, by decide, by decide +kernel⟩, by decide, TX8, 35, rfl⟩
set_option maxRecDepth 20000 in
theorem cl_L_92 : qCV RL 92 5 8 mX8_way := ⟨(wW_at 1042 (by rfl) (by rfl)), (wW_at 88 (by rfl) (by rfl)), (wW_at 1039 (by rfl) (by rfl)), (wW_at 1040 (by rfl) (by rfl)), (wW_at 1041 (by rfl) (by rfl)), ⟨by decide, by decide, by decide +kernel⟩, by decide, TX8, 35, rfl⟩
set_option maxRecDepth 20000 in
theorem cl_X8_225 : qCV RX8 225 4 8 mX8_finds := ⟨(wW_at 1046 (by rfl) (by rfl)), (wW_at 88 (by rfl) (by rfl)), (wW_at 1043 (by rfl) (by rfl)), (wW_at 1045 (by rfl) (by rfl)), (wW_at 63 (by rfl) (by rfl)), ⟨by decide, by decide, by decide +kernel⟩, by decide, TX8, 35, rfl⟩
set_option maxRecDepth 20000 in
theorem cl_X8_204 : qCV RX8 204 4 8 mX8_soonest := ⟨(wW_at 1050 (by rfl) (by rfl)), (wW_at 88 (by rfl) (by rfl)), (wW_at 1047 (by rfl) (by rfl)), (wW_at 1049 (by rfl) (by rfl)), (wW_at 64 (by rfl) (by rfl)), ⟨by decide, by decide, by decide +kernel⟩, by decide, TX8, 35, rfl⟩
set_option maxRecDepth 20000 in
theorem cl_X8_179 : qCV RX8 179 2 8 mX8_runs := ⟨(wW_at 1054 (by rfl) (by rfl)), (wW_at 88 (by rfl) (by rfl)), (wW_at 1051 (by rfl) (by rfl)), (wW_at 1053 (by rfl) (by rfl)), (wW_at 65 (by rfl) (by rfl)), ⟨by decide, by decide, by decide +kernel⟩, by decide, TX8, 35, rfl⟩
set_option maxRecDepth 20000 in
theorem cl_X8_185 : qCV RX8 185 4 8 mX8_isBoarded := ⟨(wW_at 1058 (by rfl) (by rfl)), (wW_at 88 (by rfl) (by rfl)), (wW_at 1055 (by rfl) (by rfl)), (wW_at 1057 (by rfl) (by rfl)), (wW_at 66 (by rfl) (by rfl)), ⟨by decide, by decide, by decide +kernel⟩, by decide, TX8, 35, rfl⟩
set_option maxRecDepth 20000 in
theorem cl_X8_182 : qCV RX8 182 2 8 mX8_canChange := ⟨(wW_at 1062 (by rfl) (by rfl)), (wW_at 88 (by rfl) (by rfl)), (wW_at 1059 (by rfl) (by rfl)), (wW_at 1061 (by rfl) (by rfl)), (wW_at 67 (by rfl) (by rfl)), ⟨by decide, by decide, by decide +kernel⟩, by decide, TX8, 35, rfl⟩
set_option maxRecDepth 20000 in
theorem cl_X8_208 : qCV RX8 208 2 8 mX8_findRest := ⟨(wW_at 1066 (by rfl) (by rfl)), (wW_at 88 (by rfl) (by rfl)), (wW_at 1063 (by rfl) (by rfl)), (wW_at 1065 (by rfl) (by rfl)), (wW_at 68 (by rfl) (by rfl)), ⟨by decide, by decide, by decide +kernel⟩, by decide, TX8, 35, rfl⟩
set_option maxRecDepth 20000 in
theorem cl_X8_192 : qCV RX8 192 3 8 mX8_canGoOn := ⟨(wW_at 1070 (by rfl) (by rfl)), (wW_at 88 (by rfl) (by rfl)), (wW_at 1067 (by rfl) (by rfl)), (wW_at 1069 (by rfl) (by rfl)), (wW_at 69 (by rfl) (by rfl)), ⟨by decide, by decide, by decide +kernel⟩, by decide, TX8, 35, rfl⟩
set_option maxRecDepth 20000 in
theorem cl_X8_214 : qCV RX8 214 5 8 mX8_firstTrain := ⟨(wW_at 1074 (by rfl) (by rfl)), (wW_at 88 (by rfl) (by rfl)), (wW_at 1071 (by rfl) (by rfl)), (wW_at 1073 (by rfl) (by rfl)), (wW_at 70 (by rfl) (by rfl)), ⟨by decide, by decide, by decide +kernel⟩, by decide, TX8, 35, rfl⟩
set_option maxRecDepth 20000 in
theorem cl_X8_200 : qCV RX8 200 5 8 mX8_leavesAt := ⟨(wW_at 1078 (by rfl) (by rfl)), (wW_at 88 (by rfl) (by rfl)), (wW_at 1075 (by rfl) (by rfl)), (wW_at 1077 (by rfl) (by rfl)), (wW_at 71 (by rfl) (by rfl)), ⟨by decide, by decide, by decide +kernel⟩, by decide, TX8, 35, rfl⟩
set_option maxRecDepth 20000 in
theorem cl_X8_196 : qCV RX8 196 4 8 mX8_canBoard := ⟨(wW_at 1082 (by rfl) (by rfl)), (wW_at 88 (by rfl) (by rfl)), (wW_at 1079 (by rfl) (by rfl)), (wW_at 1081 (by rfl) (by rfl)), (wW_at 72 (by rfl) (by rfl)), ⟨by decide, by decide, by decide +kernel⟩, by decide, TX8, 35, rfl⟩
set_option maxRecDepth 20000 in
theorem cl_X8_218 : qCV RX8 218 5 8 mX8_boardOf := ⟨(wW_at 1086 (by rfl) (by rfl)), (wW_at 88 (by rfl) (by rfl)), (wW_at 1083 (by rfl) (by rfl)), (wW_at 1085 (by rfl) (by rfl)), (wW_at 73 (by rfl) (by rfl)), ⟨by decide, by decide, by decide +kernel⟩, by decide, TX8, 35, rfl⟩
set_option maxRecDepth 20000 in
theorem cl_X8_222 : qCV RX8 222 3 8 mX8_restGoes := ⟨(wW_at 1090 (by rfl) (by rfl)), (wW_at 88 (by rfl) (by rfl)), (wW_at 1087 (by rfl) (by rfl)), (wW_at 1089 (by rfl) (by rfl)), (wW_at 74 (by rfl) (by rfl)), ⟨by decide, by decide, by decide +kernel⟩, by decide, TX8, 35, rfl⟩
set_option maxRecDepth 20000 in
theorem cl_L_96 : qCV RL 96 3 8 mX8_departures := ⟨(wW_at 1094 (by rfl) (by rfl)), (wW_at 88 (by rfl) (by rfl)), (wW_at 1091 (by rfl) (by rfl)), (wW_at 1092 (by rfl) (by rfl)), (wW_at 1093 (by rfl) (by rfl)), ⟨by decide, by decide, by decide +kernel⟩, by decide, TX8, 35, rfl⟩
set_option maxRecDepth 20000 in
theorem cl_X8_234 : qCV RX8 234 3 8 mX8_canDepart := ⟨(wW_at 1098 (by rfl) (by rfl)), (wW_at 88 (by rfl) (by rfl)), (wW_at 1095 (by rfl) (by rfl)), (wW_at 1097 (by rfl) (by rfl)), (wW_at 75 (by rfl) (by rfl)), ⟨by decide, by decide, by decide +kernel⟩, by decide, TX8, 35, rfl⟩
set_option maxRecDepth 20000 in
theorem cl_X8_237 : qCV RX8 237 3 8 mX8_findDepartures := ⟨(wW_at 1102 (by rfl) (by rfl)), (wW_at 88 (by rfl) (by rfl)), (wW_at 1099 (by rfl) (by rfl)), (wW_at 1101 (by rfl) (by rfl)), (wW_at 76 (by rfl) (by rfl)), ⟨by decide, by decide, by decide +kernel⟩, by decide, TX8, 35, rfl⟩
set_option maxRecDepth 20000 in
theorem cl_X8_231 : qCV RX8 231 3 8 mX8_isGone := ⟨(wW_at 1106 (by rfl) (by rfl)), (wW_at 88 (by rfl) (by rfl)), (wW_at 1103 (by rfl) (by rfl)), (wW_at 1105 (by rfl) (by rfl)), (wW_at 77 (by rfl) (by rfl)), ⟨by decide, by decide, by decide +kernel⟩, by decide, TX8, 35, rfl⟩
set_option maxRecDepth 20000 in
theorem cl_L_100 : qCV RL 100 4 8 mX8_departure := ⟨(wW_at 1110 (by rfl) (by rfl)), (wW_at 88 (by rfl) (by rfl)), (wW_at 1107 (by rfl) (by rfl)), (wW_at 1108 (by rfl) (by rfl)), (wW_at 1109 (by rfl) (by rfl)), ⟨by decide, by decide, by decide +kernel⟩, by decide, TX8, 35, rfl⟩
/-! the rest -/
set_option maxRecDepth 20000 in
theorem cx_max_s : Cond.static Lib.Math.max.name ∈ wW := (wW_at 512 (by rfl) (by rfl))
set_option maxRecDepth 20000 in
theorem cx_max_c : Cond.code Lib.Math.max.name Lib.Math.max.code 2 (some .int) ∈ wW := wW_at 513 (by rfl) (by rfl)
set_option maxRecDepth 20000 in
theorem cx_min_s : Cond.static Lib.Math.min.name ∈ wW := (wW_at 445 (by rfl) (by rfl))
set_option maxRecDepth 20000 in
theorem cx_min_c : Cond.code Lib.Math.min.name Lib.Math.min.code 2 (some .int) ∈ wW := wW_at 446 (by rfl) (by rfl)
set_option maxRecDepth 20000 in
theorem cx_math : Cond.initialized "java/lang/Math" ∈ wW := (wW_at 90 (by rfl) (by rfl))
set_option maxRecDepth 20000 in
theorem cx_sys : Cond.initialized "java/lang/System" ∈ wW := (wW_at 91 (by rfl) (by rfl))
set_option maxRecDepth 20000 in
theorem cx_cpn : Cond.native arraycopyName ∈ wW := (wW_at 470 (by rfl) (by rfl))
set_option maxRecDepth 20000 in
theorem cx_cps : Cond.static arraycopyName ∈ wW := (wW_at 469 (by rfl) (by rfl))
set_option maxRecDepth 20000 in
theorem cx_oi : Cond.instanceMethod objectInit ∈ wW := (wW_at 98 (by rfl) (by rfl))
set_option maxRecDepth 20000 in
theorem cx_oc : Cond.code objectInit ⟨#[0xb1]⟩ 1 none ∈ wW := wW_at 99 (by rfl) (by rfl)
set_option maxRecDepth 20000 in
theorem cc_L_7 : Cond.classLink RL 7 RX7 ∈ wW := (wW_at 92 (by rfl) (by rfl))
set_option maxRecDepth 20000 in
theorem cc_X7_9 : Cond.classLink RX7 9 RX5 ∈ wW := (wW_at 100 (by rfl) (by rfl))
set_option maxRecDepth 20000 in
theorem cc_X7_15 : Cond.classLink RX7 15 RX3 ∈ wW := (wW_at 102 (by rfl) (by rfl))
set_option maxRecDepth 20000 in
theorem ca_int : Cond.arrayClass .int ∈ wW := (wW_at 112 (by rfl) (by rfl))
set_option maxRecDepth 20000 in
theorem cc_X7_22 : Cond.classLink RX7 22 RX4 ∈ wW := (wW_at 113 (by rfl) (by rfl))
set_option maxRecDepth 20000 in
theorem cc_X4_9 : Cond.classLink RX4 9 RX5 ∈ wW := (wW_at 119 (by rfl) (by rfl))
set_option maxRecDepth 20000 in
theorem cc_X4_24 : Cond.classLink RX4 24 RX2 ∈ wW := (wW_at 120 (by rfl) (by rfl))
set_option maxRecDepth 20000 in
theorem cc_X4_31 : Cond.classLink RX4 31 RX0 ∈ wW := (wW_at 156 (by rfl) (by rfl))
set_option maxRecDepth 20000 in
theorem cc_X4_38 : Cond.classLink RX4 38 RX1 ∈ wW := (wW_at 184 (by rfl) (by rfl))
set_option maxRecDepth 20000 in
theorem cc_X7_29 : Cond.classLink RX7 29 RX6 ∈ wW := (wW_at 264 (by rfl) (by rfl))
set_option maxRecDepth 20000 in
theorem cc_X6_9 : Cond.classLink RX6 9 RX5 ∈ wW := (wW_at 270 (by rfl) (by rfl))
set_option maxRecDepth 20000 in
theorem ck_X5_34 : Cond.constantLong RX5 34 (1440) ∈ wW := (wW_at 386 (by rfl) (by rfl))
set_option maxRecDepth 20000 in
theorem ck_J6_265 : Cond.constant RJ6 265 (1431655765) ∈ wW := (wW_at 441 (by rfl) (by rfl))
set_option maxRecDepth 20000 in
theorem ck_J6_266 : Cond.constant RJ6 266 (858993459) ∈ wW := (wW_at 442 (by rfl) (by rfl))
set_option maxRecDepth 20000 in
theorem ck_J6_267 : Cond.constant RJ6 267 (252645135) ∈ wW := (wW_at 443 (by rfl) (by rfl))
set_option maxRecDepth 20000 in
theorem ck_X2_88 : Cond.constant RX2 88 (16777216) ∈ wW := (wW_at 492 (by rfl) (by rfl))
set_option maxRecDepth 20000 in
theorem ck_X6_59 : Cond.constant RX6 59 (1000000) ∈ wW := (wW_at 685 (by rfl) (by rfl))
set_option maxRecDepth 20000 in
theorem cc_L_10 : Cond.classLink RL 10 RX8 ∈ wW := (wW_at 773 (by rfl) (by rfl))
set_option maxRecDepth 20000 in
theorem ck_X8_59 : Cond.constant RX8 59 (262144) ∈ wW := (wW_at 779 (by rfl) (by rfl))
set_option maxRecDepth 20000 in
theorem ca_boolean : Cond.arrayClass .boolean ∈ wW := (wW_at 886 (by rfl) (by rfl))
set_option maxRecDepth 20000 in
theorem cn_X0 : Cond.instantiable RX0 6 ∈ wW := (wW_at 157 (by rfl) (by rfl))
set_option maxRecDepth 20000 in
theorem ci_X0 : Cond.initialized RX0 ∈ wW := (wW_at 83 (by rfl) (by rfl))
set_option maxRecDepth 20000 in
theorem cn_X1 : Cond.instantiable RX1 3 ∈ wW := (wW_at 185 (by rfl) (by rfl))
set_option maxRecDepth 20000 in
theorem ci_X1 : Cond.initialized RX1 ∈ wW := (wW_at 84 (by rfl) (by rfl))
set_option maxRecDepth 20000 in
theorem cn_X2 : Cond.instantiable RX2 9 ∈ wW := (wW_at 121 (by rfl) (by rfl))
set_option maxRecDepth 20000 in
theorem ci_X2 : Cond.initialized RX2 ∈ wW := (wW_at 82 (by rfl) (by rfl))
set_option maxRecDepth 20000 in
theorem cn_X3 : Cond.instantiable RX3 1 ∈ wW := (wW_at 103 (by rfl) (by rfl))
set_option maxRecDepth 20000 in
theorem ci_X3 : Cond.initialized RX3 ∈ wW := (wW_at 80 (by rfl) (by rfl))
set_option maxRecDepth 20000 in
theorem cn_X4 : Cond.instantiable RX4 7 ∈ wW := (wW_at 114 (by rfl) (by rfl))
set_option maxRecDepth 20000 in
theorem ci_X4 : Cond.initialized RX4 ∈ wW := (wW_at 81 (by rfl) (by rfl))
set_option maxRecDepth 20000 in
theorem cn_X5 : Cond.instantiable RX5 6 ∈ wW := (wW_at 202 (by rfl) (by rfl))
set_option maxRecDepth 20000 in
theorem ci_X5 : Cond.initialized RX5 ∈ wW := (wW_at 85 (by rfl) (by rfl))
set_option maxRecDepth 20000 in
theorem cn_X6 : Cond.instantiable RX6 16 ∈ wW := (wW_at 265 (by rfl) (by rfl))
set_option maxRecDepth 20000 in
theorem ci_X6 : Cond.initialized RX6 ∈ wW := (wW_at 87 (by rfl) (by rfl))
set_option maxRecDepth 20000 in
theorem cn_X7 : Cond.instantiable RX7 6 ∈ wW := (wW_at 93 (by rfl) (by rfl))
set_option maxRecDepth 20000 in
theorem ci_X7 : Cond.initialized RX7 ∈ wW := (wW_at 79 (by rfl) (by rfl))
set_option maxRecDepth 20000 in
theorem cn_X8 : Cond.instantiable RX8 35 ∈ wW := (wW_at 774 (by rfl) (by rfl))
set_option maxRecDepth 20000 in
theorem ci_X8 : Cond.initialized RX8 ∈ wW := (wW_at 88 (by rfl) (by rfl))
