abbrev rmX0_init : Room := { frames := 1, cells := 3, slots := 23, locals := 20 }
abbrev rmX0_copyFrom : Room := { frames := 1, cells := 0, slots := 0, locals := 60 }
abbrev rmX0_deal : Room := { frames := 2, cells := 0, slots := 0, locals := 44 }
abbrev rmX0_hide : Room := { frames := 1, cells := 0, slots := 0, locals := 20 }
abbrev rmX0_exchange : Room := { frames := 0, cells := 0, slots := 0, locals := 0 }
abbrev rmX0_openingsAt : Room := { frames := 1, cells := 0, slots := 0, locals := 20 }
abbrev rmX0_treasureAt : Room := { frames := 1, cells := 0, slots := 0, locals := 20 }
abbrev rmX0_ship : Room := { frames := 0, cells := 0, slots := 0, locals := 0 }
abbrev rmX0_taken : Room := { frames := 0, cells := 0, slots := 0, locals := 0 }
abbrev rmX0_lockedLine : Room := { frames := 0, cells := 0, slots := 0, locals := 0 }
abbrev rmX0_lockOn : Room := { frames := 0, cells := 0, slots := 0, locals := 0 }
abbrev rmX0_unlock : Room := { frames := 0, cells := 0, slots := 0, locals := 0 }
abbrev rmX0_lastLine : Room := { frames := 0, cells := 0, slots := 0, locals := 0 }
abbrev rmX0_lastDirection : Room := { frames := 0, cells := 0, slots := 0, locals := 0 }
abbrev rmX0_sought : Room := { frames := 0, cells := 0, slots := 0, locals := 0 }
abbrev rmX0_soughtPlace : Room := { frames := 1, cells := 0, slots := 0, locals := 20 }
abbrev rmX0_allows : Room := { frames := 0, cells := 0, slots := 0, locals := 0 }
abbrev rmX0_moveLine : Room := { frames := 1, cells := 0, slots := 0, locals := 27 }
abbrev rmX0_cycle : Room := { frames := 0, cells := 0, slots := 0, locals := 0 }
abbrev rmX0_moveShip : Room := { frames := 0, cells := 0, slots := 0, locals := 0 }
abbrev rmX0_reach : Room := { frames := 1, cells := 0, slots := 0, locals := 24 }
abbrev rmX0_stepsTo : Room := { frames := 2, cells := 0, slots := 0, locals := 41 }
abbrev rmX0_widened : Room := { frames := 0, cells := 0, slots := 0, locals := 0 }
abbrev rmX0_openAcross : Room := { frames := 0, cells := 0, slots := 0, locals := 0 }
abbrev rmX0_openDown : Room := { frames := 0, cells := 0, slots := 0, locals := 0 }
abbrev rmX0_landOn : Room := { frames := 1, cells := 0, slots := 0, locals := 20 }
abbrev rmX1_init : Room := { frames := 1, cells := 0, slots := 0, locals := 20 }
abbrev rmX1_startWith : Room := { frames := 0, cells := 0, slots := 0, locals := 0 }
abbrev rmX1_next : Room := { frames := 0, cells := 0, slots := 0, locals := 0 }
abbrev rmX1_below : Room := { frames := 1, cells := 0, slots := 0, locals := 20 }
abbrev rmX2_init : Room := { frames := 2, cells := 18, slots := 131, locals := 60 }
abbrev rmX2_resetSettings : Room := { frames := 1, cells := 0, slots := 0, locals := 60 }
abbrev rmX2_copyFrom : Room := { frames := 2, cells := 0, slots := 0, locals := 81 }
abbrev rmX2_deal : Room := { frames := 3, cells := 0, slots := 0, locals := 66 }
abbrev rmX2_players : Room := { frames := 0, cells := 0, slots := 0, locals := 0 }
abbrev rmX2_hasPlayer : Room := { frames := 0, cells := 0, slots := 0, locals := 0 }
abbrev rmX2_boardOf : Room := { frames := 0, cells := 0, slots := 0, locals := 0 }
abbrev rmX2_whoseTurn : Room := { frames := 0, cells := 0, slots := 0, locals := 0 }
abbrev rmX2_isShifted : Room := { frames := 0, cells := 0, slots := 0, locals := 0 }
abbrev rmX2_ended : Room := { frames := 0, cells := 0, slots := 0, locals := 0 }
abbrev rmX2_isOver : Room := { frames := 0, cells := 0, slots := 0, locals := 0 }
abbrev rmX2_winner : Room := { frames := 0, cells := 0, slots := 0, locals := 0 }
abbrev rmX2_isRunning : Room := { frames := 0, cells := 0, slots := 0, locals := 0 }
abbrev rmX2_settingOf : Room := { frames := 1, cells := 0, slots := 0, locals := 20 }
abbrev rmX2_changeSetting : Room := { frames := 1, cells := 0, slots := 0, locals := 20 }
abbrev rmX2_takenByAll : Room := { frames := 1, cells := 0, slots := 0, locals := 21 }
abbrev rmX2_reaches : Room := { frames := 2, cells := 0, slots := 0, locals := 49 }
abbrev rmX2_mayShift : Room := { frames := 1, cells := 0, slots := 0, locals := 22 }
abbrev rmX2_shiftLine : Room := { frames := 2, cells := 0, slots := 0, locals := 52 }
abbrev rmX2_tryShift : Room := { frames := 3, cells := 0, slots := 0, locals := 75 }
abbrev rmX2_mayEndTurn : Room := { frames := 1, cells := 0, slots := 0, locals := 20 }
abbrev rmX2_mayGo : Room := { frames := 3, cells := 0, slots := 0, locals := 71 }
abbrev rmX2_goTo : Room := { frames := 3, cells := 0, slots := 0, locals := 61 }
abbrev rmX2_tryGo : Room := { frames := 4, cells := 0, slots := 0, locals := 92 }
abbrev rmX2_lockLine : Room := { frames := 3, cells := 0, slots := 0, locals := 61 }
abbrev rmX2_tryLock : Room := { frames := 4, cells := 0, slots := 0, locals := 82 }
abbrev rmX2_endTurn : Room := { frames := 2, cells := 0, slots := 0, locals := 41 }
abbrev rmX3_init : Room := { frames := 3, cells := 267, slots := 1960, locals := 81 }
abbrev rmX3_count : Room := { frames := 0, cells := 0, slots := 0, locals := 0 }
abbrev rmX3_forget : Room := { frames := 0, cells := 0, slots := 0, locals := 0 }
abbrev rmX3_remember : Room := { frames := 3, cells := 0, slots := 0, locals := 103 }
abbrev rmX3_recall : Room := { frames := 3, cells := 0, slots := 0, locals := 103 }
abbrev rmX4_init : Room := { frames := 2, cells := 4, slots := 31, locals := 40 }
abbrev rmX4_chosenPlayer : Room := { frames := 0, cells := 0, slots := 0, locals := 0 }
abbrev rmX4_chosenLine : Room := { frames := 0, cells := 0, slots := 0, locals := 0 }
abbrev rmX4_chosenDirection : Room := { frames := 0, cells := 0, slots := 0, locals := 0 }
abbrev rmX4_finishTurn : Room := { frames := 4, cells := 0, slots := 0, locals := 131 }
abbrev rmX4_chooseShift : Room := { frames := 3, cells := 0, slots := 0, locals := 108 }
abbrev rmX4_consider : Room := { frames := 2, cells := 0, slots := 0, locals := 81 }
abbrev rmX4_chooseTile : Room := { frames := 2, cells := 0, slots := 0, locals := 49 }
abbrev rmX5_init : Room := { frames := 1, cells := 1, slots := 120, locals := 20 }
abbrev rmX5_isFull : Room := { frames := 0, cells := 0, slots := 0, locals := 0 }
abbrev rmX5_add : Room := { frames := 0, cells := 0, slots := 0, locals := 0 }
abbrev rmX5_empty : Room := { frames := 0, cells := 0, slots := 0, locals := 0 }
abbrev rmX5_length : Room := { frames := 0, cells := 0, slots := 0, locals := 0 }
abbrev rmX5_signAt : Room := { frames := 0, cells := 0, slots := 0, locals := 0 }
abbrev rmX5_digitAt : Room := { frames := 1, cells := 0, slots := 0, locals := 21 }
abbrev rmX5_players : Room := { frames := 2, cells := 0, slots := 0, locals := 42 }
abbrev rmX5_seed : Room := { frames := 2, cells := 0, slots := 0, locals := 42 }
abbrev rmX5_isMoveAt : Room := { frames := 1, cells := 0, slots := 0, locals := 21 }
abbrev rmX5_wrongAt : Room := { frames := 2, cells := 0, slots := 0, locals := 41 }
abbrev rmX5_dueAfter : Room := { frames := 1, cells := 0, slots := 0, locals := 20 }
abbrev rmX5_dueAfterLetter : Room := { frames := 0, cells := 0, slots := 0, locals := 0 }
abbrev rmX6_init : Room := { frames := 4, cells := 354, slots := 2682, locals := 102 }
abbrev rmX6_append : Room := { frames := 6, cells := 1, slots := 6, locals := 100 }
abbrev rmX6_clearText : Room := { frames := 1, cells := 0, slots := 0, locals := 21 }
abbrev rmX6_errorPosition : Room := { frames := 3, cells := 0, slots := 0, locals := 63 }
abbrev rmX6_load : Room := { frames := 6, cells := 1, slots := 6, locals := 137 }
abbrev rmX6_doMoveAt : Room := { frames := 5, cells := 0, slots := 0, locals := 113 }
abbrev rmX6_about : Room := { frames := 6, cells := 1, slots := 6, locals := 100 }
abbrev rmX6_tile : Room := { frames := 6, cells := 1, slots := 6, locals := 100 }
abbrev rmX6_player : Room := { frames := 6, cells := 1, slots := 6, locals := 100 }
abbrev rmX6_setting : Room := { frames := 6, cells := 1, slots := 6, locals := 100 }
abbrev rmX6_begin : Room := { frames := 6, cells := 1, slots := 6, locals := 124 }
abbrev rmX6_shift : Room := { frames := 6, cells := 1, slots := 6, locals := 124 }
abbrev rmX6_go : Room := { frames := 6, cells := 1, slots := 6, locals := 124 }
abbrev rmX6_lock : Room := { frames := 6, cells := 1, slots := 6, locals := 124 }
abbrev rmX6_play : Room := { frames := 6, cells := 1, slots := 6, locals := 152 }
abbrev rmX6_set : Room := { frames := 6, cells := 1, slots := 6, locals := 124 }
abbrev rmX6_undo : Room := { frames := 6, cells := 1, slots := 6, locals := 124 }
abbrev rmX6_canShift : Room := { frames := 6, cells := 1, slots := 6, locals := 100 }
abbrev rmX6_ifShifted : Room := { frames := 6, cells := 1, slots := 6, locals := 103 }
abbrev rmX6_worstShift : Room := { frames := 6, cells := 1, slots := 6, locals := 131 }
abbrev rmX6_steps : Room := { frames := 6, cells := 1, slots := 6, locals := 100 }
abbrev rmX6_goesOn : Room := { frames := 6, cells := 1, slots := 6, locals := 152 }
abbrev rmX6_runScript : Room := { frames := 6, cells := 1, slots := 6, locals := 177 }
abbrev rmX6_withoutLast : Room := { frames := 0, cells := 0, slots := 0, locals := 0 }
abbrev rmX6_succeeds : Room := { frames := 5, cells := 0, slots := 0, locals := 152 }
abbrev rmX6_simulate : Room := { frames := 6, cells := 1, slots := 6, locals := 173 }
abbrev rmX6_simulateMove : Room := { frames := 5, cells := 0, slots := 0, locals := 152 }
abbrev rmX6_save : Room := { frames := 6, cells := 1, slots := 6, locals := 103 }
abbrev rmX6_restore : Room := { frames := 6, cells := 1, slots := 6, locals := 103 }
abbrev rmX6_isPlace : Room := { frames := 0, cells := 0, slots := 0, locals := 0 }
abbrev rmX6_isIn : Room := { frames := 1, cells := 0, slots := 0, locals := 20 }
abbrev rmX6_isLine : Room := { frames := 0, cells := 0, slots := 0, locals := 0 }
abbrev rmX6_isDirection : Room := { frames := 0, cells := 0, slots := 0, locals := 0 }
abbrev rmX6_isSetting : Room := { frames := 0, cells := 0, slots := 0, locals := 0 }
abbrev rmX6_isSlot : Room := { frames := 0, cells := 0, slots := 0, locals := 0 }
abbrev rmX7_init : Room := { frames := 1, cells := 7, slots := 2421, locals := 21 }
abbrev rmX7_thrown : Room := { frames := 0, cells := 0, slots := 0, locals := 0 }
abbrev rmX7_refused : Room := { frames := 0, cells := 0, slots := 0, locals := 0 }
abbrev rmX7_in : Room := { frames := 0, cells := 0, slots := 0, locals := 0 }
abbrev rmX7_copyState : Room := { frames := 0, cells := 0, slots := 0, locals := 0 }
abbrev rmX7_clear : Room := { frames := 0, cells := 0, slots := 0, locals := 0 }
abbrev rmX7_at : Room := { frames := 0, cells := 0, slots := 0, locals := 0 }
abbrev rmX7_isPlayer : Room := { frames := 1, cells := 0, slots := 0, locals := 25 }
abbrev rmX7_isPlace : Room := { frames := 1, cells := 0, slots := 0, locals := 25 }
abbrev rmX7_isLine : Room := { frames := 1, cells := 0, slots := 0, locals := 25 }
abbrev rmX7_isOn : Room := { frames := 0, cells := 0, slots := 0, locals := 0 }
abbrev rmX7_drawn : Room := { frames := 0, cells := 0, slots := 0, locals := 0 }
abbrev rmX7_deal : Room := { frames := 1, cells := 0, slots := 0, locals := 21 }
abbrev rmX7_beginOn : Room := { frames := 2, cells := 0, slots := 0, locals := 47 }
abbrev rmX7_sought : Room := { frames := 1, cells := 0, slots := 0, locals := 20 }
abbrev rmX7_placeOfSought : Room := { frames := 2, cells := 0, slots := 0, locals := 42 }
abbrev rmX7_joins : Room := { frames := 2, cells := 0, slots := 0, locals := 45 }
abbrev rmX7_joinsBack : Room := { frames := 1, cells := 0, slots := 0, locals := 20 }
abbrev rmX7_reach : Room := { frames := 3, cells := 0, slots := 0, locals := 70 }
abbrev rmX7_reachable : Room := { frames := 4, cells := 0, slots := 0, locals := 97 }
abbrev rmX7_count : Room := { frames := 0, cells := 0, slots := 0, locals := 0 }
abbrev rmX7_canTake : Room := { frames := 5, cells := 0, slots := 0, locals := 118 }
abbrev rmX7_inLine : Room := { frames := 0, cells := 0, slots := 0, locals := 0 }
abbrev rmX7_push : Room := { frames := 1, cells := 0, slots := 0, locals := 23 }
abbrev rmX7_exchange : Room := { frames := 0, cells := 0, slots := 0, locals := 0 }
abbrev rmX7_may : Room := { frames := 1, cells := 0, slots := 0, locals := 20 }
abbrev rmX7_canShiftNow : Room := { frames := 2, cells := 0, slots := 0, locals := 46 }
abbrev rmX7_shiftOn : Room := { frames := 5, cells := 0, slots := 0, locals := 118 }
abbrev rmX7_endTurn : Room := { frames := 1, cells := 0, slots := 0, locals := 20 }
abbrev rmX7_canGo : Room := { frames := 5, cells := 0, slots := 0, locals := 118 }
abbrev rmX7_goOn : Room := { frames := 2, cells := 0, slots := 0, locals := 42 }
abbrev rmX7_canLock : Room := { frames := 1, cells := 0, slots := 0, locals := 20 }
abbrev rmX7_lockOn : Room := { frames := 2, cells := 0, slots := 0, locals := 40 }
abbrev rmX7_leaves : Room := { frames := 6, cells := 0, slots := 0, locals := 140 }
abbrev rmX7_findShift : Room := { frames := 7, cells := 0, slots := 0, locals := 164 }
abbrev rmX7_apartBy : Room := { frames := 0, cells := 0, slots := 0, locals := 0 }
abbrev rmX7_playOn : Room := { frames := 8, cells := 0, slots := 0, locals := 189 }
abbrev rmX7_isSetting : Room := { frames := 1, cells := 0, slots := 0, locals := 25 }
abbrev rmX7_takenByAll : Room := { frames := 1, cells := 0, slots := 0, locals := 20 }
abbrev rmX7_append : Room := { frames := 1, cells := 0, slots := 0, locals := 25 }
abbrev rmX7_clearText : Room := { frames := 0, cells := 0, slots := 0, locals := 0 }
abbrev rmX7_digit : Room := { frames := 1, cells := 0, slots := 0, locals := 25 }
abbrev rmX7_done : Room := { frames := 0, cells := 0, slots := 0, locals := 0 }
abbrev rmX7_readShift : Room := { frames := 6, cells := 0, slots := 0, locals := 141 }
abbrev rmX7_readMove : Room := { frames := 7, cells := 0, slots := 0, locals := 166 }
abbrev rmX7_readText : Room := { frames := 8, cells := 0, slots := 0, locals := 189 }
abbrev rmX7_errorPosition : Room := { frames := 9, cells := 0, slots := 0, locals := 213 }
abbrev rmX7_load : Room := { frames := 9, cells := 0, slots := 0, locals := 213 }
abbrev rmX7_about : Room := { frames := 1, cells := 0, slots := 0, locals := 25 }
abbrev rmX7_tile : Room := { frames := 2, cells := 0, slots := 0, locals := 46 }
abbrev rmX7_player : Room := { frames := 6, cells := 0, slots := 0, locals := 140 }
abbrev rmX7_setting : Room := { frames := 1, cells := 0, slots := 0, locals := 25 }
abbrev rmX7_remember : Room := { frames := 1, cells := 0, slots := 0, locals := 24 }
abbrev rmX7_begin : Room := { frames := 3, cells := 0, slots := 0, locals := 72 }
abbrev rmX7_shift : Room := { frames := 6, cells := 0, slots := 0, locals := 141 }
abbrev rmX7_go : Room := { frames := 6, cells := 0, slots := 0, locals := 139 }
abbrev rmX7_lock : Room := { frames := 3, cells := 0, slots := 0, locals := 61 }
abbrev rmX7_play : Room := { frames := 9, cells := 0, slots := 0, locals := 216 }
abbrev rmX7_set : Room := { frames := 2, cells := 0, slots := 0, locals := 46 }
abbrev rmX7_undo : Room := { frames := 1, cells := 0, slots := 0, locals := 24 }
abbrev rmX7_canShift : Room := { frames := 2, cells := 0, slots := 0, locals := 46 }
abbrev rmX7_ifShifted : Room := { frames := 6, cells := 0, slots := 0, locals := 140 }
abbrev rmX7_worstShift : Room := { frames := 8, cells := 0, slots := 0, locals := 189 }
abbrev rmX7_steps : Room := { frames := 4, cells := 0, slots := 0, locals := 97 }
abbrev rmX7_goesOn : Room := { frames := 9, cells := 0, slots := 0, locals := 216 }
abbrev rmX7_command : Room := { frames := 9, cells := 0, slots := 0, locals := 216 }
abbrev rmX7_runScript : Room := { frames := 10, cells := 0, slots := 0, locals := 241 }
abbrev rmX7_move : Room := { frames := 9, cells := 0, slots := 0, locals := 216 }
abbrev rmX7_simulate : Room := { frames := 10, cells := 0, slots := 0, locals := 237 }
abbrev rmX7_save : Room := { frames := 1, cells := 0, slots := 0, locals := 25 }
abbrev rmX7_restore : Room := { frames := 1, cells := 0, slots := 0, locals := 25 }
abbrev rmL_append : Room := { frames := 7, cells := 1, slots := 6, locals := 121 }
abbrev rmL_load : Room := { frames := 7, cells := 1, slots := 6, locals := 159 }
abbrev rmL_about : Room := { frames := 7, cells := 1, slots := 6, locals := 121 }
abbrev rmL_tile : Room := { frames := 7, cells := 1, slots := 6, locals := 124 }
abbrev rmL_player : Room := { frames := 7, cells := 1, slots := 6, locals := 123 }
abbrev rmL_setting : Room := { frames := 7, cells := 1, slots := 6, locals := 121 }
abbrev rmL_begin : Room := { frames := 7, cells := 1, slots := 6, locals := 147 }
abbrev rmL_shift : Room := { frames := 7, cells := 1, slots := 6, locals := 147 }
abbrev rmL_go : Room := { frames := 7, cells := 1, slots := 6, locals := 145 }
abbrev rmL_lock : Room := { frames := 7, cells := 1, slots := 6, locals := 145 }
abbrev rmL_play : Room := { frames := 7, cells := 1, slots := 6, locals := 172 }
abbrev rmL_set : Room := { frames := 7, cells := 1, slots := 6, locals := 146 }
abbrev rmL_undo : Room := { frames := 7, cells := 1, slots := 6, locals := 144 }
abbrev rmL_canShift : Room := { frames := 7, cells := 1, slots := 6, locals := 123 }
abbrev rmL_ifShifted : Room := { frames := 7, cells := 1, slots := 6, locals := 129 }
abbrev rmL_worstShift : Room := { frames := 7, cells := 1, slots := 6, locals := 152 }
abbrev rmL_steps : Room := { frames := 7, cells := 1, slots := 6, locals := 122 }
abbrev rmL_goesOn : Room := { frames := 7, cells := 1, slots := 6, locals := 174 }
abbrev rmL_runScript : Room := { frames := 7, cells := 1, slots := 6, locals := 203 }
abbrev rmL_simulate : Room := { frames := 7, cells := 1, slots := 6, locals := 197 }
abbrev rmL_save : Room := { frames := 7, cells := 1, slots := 6, locals := 124 }
abbrev rmL_restore : Room := { frames := 7, cells := 1, slots := 6, locals := 124 }
abbrev rmL_law : Room := { frames := 11, cells := 0, slots := 0, locals := 268 }
/-! PURE: what the class's boards do, as functions of a board's 28 numbers: 0-8 openings, 9-17 treasures, 18-22 order, 23 taken, 24 ship, 25 lock, 26 line, 27 direction -/
abbrev zBA : Type := Nat × Nat × Nat × Nat
abbrev bdW (G : zC) (a : zBA) (f : Nat → Int32) : va_W := [(a.1, .inr (0, [.ref a.2.1, .ref a.2.2.1, .ref a.2.2.2, .int (f 24), .int (f 23), .int (f 25), .int (f 26), .int (f 27)])), (a.2.1, .inl (G.2 1, 9, .inl (fun i => f i))), (a.2.2.1, .inl (G.2 1, 9, .inl (fun i => f (9 + i)))), (a.2.2.2, .inl (G.2 1, 5, .inl (fun i => f (18 + i))))]
theorem bd_fold {G : zC} {a : zBA} {F : Nat → Int32} {x24 x23 x25 x26 x27 : Int32} {o t r : Nat → Int32} (h24 : x24 = F 24) (h23 : x23 = F 23) (h25 : x25 = F 25) (h26 : x26 = F 26) (h27 : x27 = F 27) (ho : ∀ i, i < 9 → o i = F i) (ht : ∀ i, i < 9 → t i = F (9 + i)) (hr : ∀ i, i < 5 → r i = F (18 + i)) : zSim [(a.1, .inr (0, [.ref a.2.1, .ref a.2.2.1, .ref a.2.2.2, .int x24, .int x23, .int x25, .int x26, .int x27])), (a.2.1, .inl (G.2 1, 9, .inl o)), (a.2.2.1, .inl (G.2 1, 9, .inl t)), (a.2.2.2, .inl (G.2 1, 5, .inl r))] (bdW G a F) := by
  subst h24 h23 h25 h26 h27
  exact ⟨zSame_rf _, zSame_arr ho, zSame_arr ht, zSame_arr hr, trivial⟩
def zPl (n : Int32) : Bool := !decide (n < 0) && !decide (9 ≤ n)
def zLi (n : Int32) : Bool := !decide (n < 0) && !decide (6 ≤ n)
def zDi (n : Int32) : Bool := decide (n = 0) || decide (n = 1)
def zSe (n : Int32) : Bool := !decide (n < 0) && !decide (3 ≤ n)
def zSl (n : Int32) : Bool := !decide (n < 0) && !decide (2 ≤ n)
def zIn (x n : Int32) : Bool := zPl n && decide (x >>> (n &&& 31) &&& 1 = 1)
theorem vpin_of {x : Int32} {n : Nat} (hn : n < 2 ^ 31) (h0 : ¬ x < 0) (h1 : ¬ nI n ≤ x) : vp_in x n := by
  rcases pk_ix x hn with h | h | ⟨j, hj, rfl⟩
  · exact absurd h h0
  · exact absurd h h1
  · exact vp_in_nI hj hn
theorem zPl_in {n : Int32} (h : zPl n = true) : vp_in n 9 := by
  simp only [zPl, Bool.and_eq_true, Bool.not_eq_true', decide_eq_false_iff_not] at h
  exact vpin_of (by decide) h.1 h.2
theorem zSe_in {n : Int32} (h : zSe n = true) : vp_in n 3 := by
  simp only [zSe, Bool.and_eq_true, Bool.not_eq_true', decide_eq_false_iff_not] at h
  exact vpin_of (by decide) h.1 h.2
theorem zSl_in {n : Int32} (h : zSl n = true) : vp_in n 2 := by
  simp only [zSl, Bool.and_eq_true, Bool.not_eq_true', decide_eq_false_iff_not] at h
  exact vpin_of (by decide) h.1 h.2
theorem zPl_nI {k : Nat} (h : k < 9) : zPl (nI k) = true := by
  simp only [zPl, Bool.and_eq_true, Bool.not_eq_true', decide_eq_false_iff_not]
  exact ⟨nI_pos (by omega), nI_ge h (by decide)⟩
theorem zLi_nI {k : Nat} (h : k < 6) : zLi (nI k) = true := by
  simp only [zLi, Bool.and_eq_true, Bool.not_eq_true', decide_eq_false_iff_not]
  exact ⟨nI_pos (by omega), nI_ge h (by decide)⟩
def zSo (f : Nat → Int32) : Int32 := if !decide (f 23 < 0) && !decide (5 ≤ f 23) then f (18 + (f 23).toNatClampNeg) else -1
def zFd (t : Nat → Int32) (v : Int32) : Nat → Nat → Int32
  | 0, _ => -1
  | k + 1, i => if t i = v then nI i else zFd t v k (i + 1)
def zSp (f : Nat → Int32) : Int32 := zFd (fun i => f (9 + i)) (zSo f) 9 0
def zAl (f : Nat → Int32) (n d : Int32) : Bool := !decide (n = f 25) && !(decide (n = f 26) && !decide (d = f 27))
def zCy (a b : Nat) (t : Nat → Int32) : Nat → Int32 := upd (upd (upd t (a + b + b) (t (a + b))) (a + b) (upd t (a + b + b) (t (a + b)) a)) a (t (a + b + b))
def zCyN (a b : Nat) : Nat → (Nat → Int32) → Nat → Int32
  | 0, t => t
  | h + 1, t => zCyN a b h (zCy a b t)
def zSh (a b h : Nat) (s : Int32) : Nat → Nat → Int32
  | 0, _ => s
  | k + 1, i => if s = nI (a + i * b) then nI (a + (i + h) % 3 * b) else zSh a b h s k (i + 1)
def zMa (n : Nat) : Nat := if n < 3 then n * 3 else n - 3
def zMb (n : Nat) : Nat := if n < 3 then 1 else 3
def zMh (d : Int32) : Nat := if d = 1 then 1 else 2
/-- a line of a board shifted -/
def zMv (f : Nat → Int32) (n : Nat) (d : Int32) : Nat → Int32 := fun k =>
  if k < 9 then zCyN (zMa n) (zMb n) (zMh d) (fun i => f i) k
  else if k < 18 then zCyN (zMa n) (zMb n) (zMh d) (fun i => f (9 + i)) (k - 9)
  else if k = 24 then zSh (zMa n) (zMb n) (zMh d) (f 24) 3 0
  else if k = 26 then nI n
  else if k = 27 then d
  else f k
def zAc (f : Nat → Int32) : Nat → Nat → Int32 → Int32
  | 0, _, x => x
  | k + 1, i, x => zAc f k (i + 1) (if i % 3 < 2 ∧ ¬ f i &&& 2 = 0 ∧ ¬ f (i + 1) &&& 8 = 0 then x ||| 1 <<< (nI i &&& 31) else x)
def zDo (f : Nat → Int32) : Nat → Nat → Int32 → Int32
  | 0, _, x => x
  | k + 1, i, x => zDo f k (i + 1) (if ¬ f i &&& 4 = 0 ∧ ¬ f (i + 3) &&& 1 = 0 then x ||| 1 <<< (nI i &&& 31) else x)
def zAcr (f : Nat → Int32) : Int32 := zAc f 8 0 0
def zDow (f : Nat → Int32) : Int32 := zDo f 6 0 0
def zWi (x a d : Int32) : Int32 := (x ||| (((x &&& a) <<< (1 &&& 31)) ||| ((x >>> (1 &&& 31)) &&& a))) ||| (((x &&& d) <<< (3 &&& 31)) ||| ((x >>> (3 &&& 31)) &&& d))
def zRe (a d : Int32) : Nat → Int32 → Int32
  | 0, x => x
  | k + 1, x => zRe a d k (zWi x a d)
def zRch (f : Nat → Int32) (k : Nat) : Int32 := zRe (zAcr f) (zDow f) k (1 <<< (f 24 &&& 31))
def zSt (a d n : Int32) : Nat → Nat → Int32 → Int32
  | 0, _, _ => -1
  | k + 1, i, x => if zIn x n = true then nI i else zSt a d n k (i + 1) (zWi x a d)
def zSts (f : Nat → Int32) (n : Int32) : Int32 := zSt (zAcr f) (zDow f) n 9 0 (1 <<< (f 24 &&& 31))
def zLdN (f : Nat → Int32) (k : Nat) : Prop := f (9 + k) = 0 ∨ ¬ f (9 + k) = zSo f
theorem zSo_ship (f : Nat → Int32) (v : Int32) : zSo (upd f 24 v) = zSo f := by
  unfold zSo
  simp only [pk_un (f := f) (k := 24) (j := 23) (x := v) (by decide)]
  split
  · rename_i h
    simp only [Bool.and_eq_true, Bool.not_eq_true', decide_eq_false_iff_not] at h
    have h9 := vpin_of (n := 5) (by decide) h.1 h.2
    obtain ⟨j, hj, e⟩ := vp_in_of h9 (by decide)
    rw [e, nI_clamp (by omega)]
    exact pk_un (by omega)
  · rfl
/-- the ship's landing: what the board is then, what is taken -/
def zLd (f : Nat → Int32) (k : Nat) : Nat → Int32 := if f (9 + k) = 0 ∨ ¬ f (9 + k) = zSo f then upd f 24 (nI k) else upd (upd (upd f 24 (nI k)) (9 + k) 0) 23 (f 23 + 1)
def zLr (f : Nat → Int32) (k : Nat) : Int32 := if f (9 + k) = 0 ∨ ¬ f (9 + k) = zSo f then 0 else f (9 + k)
def zNx (x : Int64) : Int64 := x * 6364136223846793005 + 1442695040888963407
def zRn (x : Int64) : Int32 := (((zNx x).toUInt64 >>> ((33 : Int32).toInt64.toUInt64 &&& Int64.toUInt64 63)).toInt64).toInt32
def zBl (x : Int64) (n : Int32) : Int32 := zRn x - zRn x / n * n
theorem bd_set24 {G : zC} {a : zBA} {f : Nat → Int32} {v V : Int32} (e : v = V) : zSim [(a.1, .inr (0, [.ref a.2.1, .ref a.2.2.1, .ref a.2.2.2, .int v, .int (f 23), .int (f 25), .int (f 26), .int (f 27)])), (a.2.1, .inl (G.2 1, 9, .inl (fun i => f i))), (a.2.2.1, .inl (G.2 1, 9, .inl (fun i => f (9 + i)))), (a.2.2.2, .inl (G.2 1, 5, .inl (fun i => f (18 + i))))] (bdW G a (upd f 24 V)) := by
  subst e
  exact bd_fold rfl rfl rfl rfl rfl (fun i hi => (pk_un (by omega)).symm) (fun i hi => (pk_un (by omega)).symm) (fun i hi => (pk_un (by omega)).symm)
theorem mv_fold {G : zC} {a : zBA} {f : Nat → Int32} {n x y h : Nat} {d : Int32} (e1 : zMa n = x) (e2 : zMb n = y) (e3 : zMh d = h) : zSim [(a.1, .inr (0, [.ref a.2.1, .ref a.2.2.1, .ref a.2.2.2, .int (zSh x y h (f 24) 3 0), .int (f 23), .int (f 25), .int (nI n), .int d])), (a.2.1, .inl (G.2 1, 9, .inl (zCyN x y h (fun i => f i)))), (a.2.2.1, .inl (G.2 1, 9, .inl (zCyN x y h (fun i => f (9 + i))))), (a.2.2.2, .inl (G.2 1, 5, .inl (fun i => f (18 + i))))] (bdW G a (zMv f n d)) := by
  subst e1 e2 e3
  refine bd_fold rfl rfl rfl rfl rfl (fun i hi => ?_) (fun i hi => ?_) (fun i hi => ?_)
  · unfold zMv
    rw [if_pos hi]
  · unfold zMv
    rw [if_neg (by omega), if_pos (by omega), Nat.add_sub_cancel_left]
  · unfold zMv
    rw [if_neg (by omega), if_neg (by omega), if_neg (by omega), if_neg (by omega), if_neg (by omega)]
theorem ld_fold {G : zC} {a : zBA} {f : Nat → Int32} {k : Nat} (h : ¬ (f (9 + k) = 0 ∨ ¬ f (9 + k) = zSo f)) (hk : k < 9) : zSim [(a.1, .inr (0, [.ref a.2.1, .ref a.2.2.1, .ref a.2.2.2, .int (nI k), .int (f 23 + 1), .int (f 25), .int (f 26), .int (f 27)])), (a.2.1, .inl (G.2 1, 9, .inl (fun i => f i))), (a.2.2.1, .inl (G.2 1, 9, .inl (upd (fun i => f (9 + i)) k 0))), (a.2.2.2, .inl (G.2 1, 5, .inl (fun i => f (18 + i))))] (bdW G a (zLd f k)) := by
  unfold zLd
  rw [if_neg h]
  refine bd_fold ?_ ?_ ?_ ?_ ?_ (fun i hi => ?_) (fun i hi => ?_) (fun i hi => ?_)
  · rw [pk_un (by decide), pk_un (by omega), pk_us]
  · rw [pk_us]
  · rw [pk_un (by decide), pk_un (by omega), pk_un (by decide)]
  · rw [pk_un (by decide), pk_un (by omega), pk_un (by decide)]
  · rw [pk_un (by decide), pk_un (by omega), pk_un (by decide)]
  · rw [pk_un (by omega), pk_un (by omega), pk_un (by omega)]
  · by_cases e : i = k
    · subst e
      rw [pk_us, pk_un (by omega), pk_us]
    · rw [pk_un e, pk_un (by omega), pk_un (by omega), pk_un (by omega)]
  · rw [pk_un (by omega), pk_un (by omega), pk_un (by omega)]
theorem bd_un24 {G : zC} {a : zBA} {f : Nat → Int32} {v : Int32} : zSim (bdW G a (upd f 24 v)) [(a.1, .inr (0, [.ref a.2.1, .ref a.2.2.1, .ref a.2.2.2, .int v, .int (f 23), .int (f 25), .int (f 26), .int (f 27)])), (a.2.1, .inl (G.2 1, 9, .inl (fun i => f i))), (a.2.2.1, .inl (G.2 1, 9, .inl (fun i => f (9 + i)))), (a.2.2.2, .inl (G.2 1, 5, .inl (fun i => f (18 + i))))] :=
  ⟨zSame_rf _, zSame_arr (fun i hi => pk_un (by omega)), zSame_arr (fun i hi => pk_un (by omega)), zSame_arr (fun i hi => pk_un (by omega)), trivial⟩
theorem cpy_at {f g : Nat → Int32} {n i : Nat} (h : i < n) : va_cpy g f 0 0 n i = g i := by
  rw [pk_cpy_in (by omega) (by omega)]
  exact congrArg g (by omega)
theorem cpy_fold {G : zC} {a : zBA} {f g : Nat → Int32} : zSim [(a.1, .inr (0, [.ref a.2.1, .ref a.2.2.1, .ref a.2.2.2, .int (g 24), .int (g 23), .int (g 25), .int (g 26), .int (g 27)])), (a.2.1, .inl (G.2 1, 9, .inl (va_cpy (fun i => g i) (fun i => f i) 0 0 9))), (a.2.2.1, .inl (G.2 1, 9, .inl (va_cpy (fun i => g (9 + i)) (fun i => f (9 + i)) 0 0 9))), (a.2.2.2, .inl (G.2 1, 5, .inl (va_cpy (fun i => g (18 + i)) (fun i => f (18 + i)) 0 0 5)))] (bdW G a g) :=
  bd_fold rfl rfl rfl rfl rfl (fun i hi => cpy_at hi) (fun i hi => cpy_at hi) (fun i hi => cpy_at hi)
