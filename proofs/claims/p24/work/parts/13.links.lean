theorem gw_1 {w : Cond} (q : Nat) (h : tables_1_1[q]? = some w) (hg : goodWord w = true) : w ∈ gw := List.mem_filter.mpr ⟨List.mem_append_right _ (show w ∈ tables_1 from (List.mem_append_left _ (List.mem_of_getElem? h))), hg⟩
theorem gnw_1 {w : Cond} (q : Nat) (h : tables_1_1[q]? = some w) (hg : gnest w = true) : w ∈ gnw := List.mem_filter.mpr ⟨(show w ∈ tables_1 from (List.mem_append_left _ (List.mem_of_getElem? h))), hg⟩
theorem gw_2 {w : Cond} (q : Nat) (h : tables_1_2[q]? = some w) (hg : goodWord w = true) : w ∈ gw := List.mem_filter.mpr ⟨List.mem_append_right _ (show w ∈ tables_1 from (List.mem_append_right _ (List.mem_append_left _ (List.mem_of_getElem? h)))), hg⟩
theorem gnw_2 {w : Cond} (q : Nat) (h : tables_1_2[q]? = some w) (hg : gnest w = true) : w ∈ gnw := List.mem_filter.mpr ⟨(show w ∈ tables_1 from (List.mem_append_right _ (List.mem_append_left _ (List.mem_of_getElem? h)))), hg⟩
theorem gw_3 {w : Cond} (q : Nat) (h : tables_1_3[q]? = some w) (hg : goodWord w = true) : w ∈ gw := List.mem_filter.mpr ⟨List.mem_append_right _ (show w ∈ tables_1 from (List.mem_append_right _ (List.mem_append_right _ (List.mem_of_getElem? h)))), hg⟩
theorem gnw_3 {w : Cond} (q : Nat) (h : tables_1_3[q]? = some w) (hg : gnest w = true) : w ∈ gnw := List.mem_filter.mpr ⟨(show w ∈ tables_1 from (List.mem_append_right _ (List.mem_append_right _ (List.mem_of_getElem? h)))), hg⟩
abbrev MX0_init : gM := (yX0_init, cX0_init, 1, none, { frames := 2, cells := 1, slots := 3, locals := 40 })
abbrev MX0_correct : gM := (yX0_correct, cX0_correct, 18, some .boolean, { frames := 3, cells := 0, slots := 0, locals := 76 })
abbrev MX1_init : gM := (yX1_init, cX1_init, 2, none, { frames := 4, cells := 145, slots := 3596, locals := 81 })
abbrev MX1_keep : gM := (yX1_keep, cX1_keep, 2, none, { frames := 4, cells := 0, slots := 0, locals := 89 })
abbrev MX1_restore : gM := (yX1_restore, cX1_restore, 2, none, { frames := 4, cells := 0, slots := 0, locals := 89 })
abbrev MX1_latest : gM := (yX1_latest, cX1_latest, 1, some .int, { frames := 0, cells := 0, slots := 0, locals := 0 })
abbrev MX2_init : gM := (yX2_init, cX2_init, 1, none, { frames := 3, cells := 3, slots := 10, locals := 60 })
abbrev MX2_advance : gM := (yX2_advance, cX2_advance, 5, some .boolean, { frames := 5, cells := 0, slots := 0, locals := 143 })
abbrev MX2_arrives : gM := (yX2_arrives, cX2_arrives, 11, some .boolean, { frames := 4, cells := 0, slots := 0, locals := 113 })
abbrev MX2_land : gM := (yX2_land, cX2_land, 9, none, { frames := 2, cells := 0, slots := 0, locals := 41 })
abbrev MX2_leavesCrossing : gM := (yX2_leavesCrossing, cX2_leavesCrossing, 17, some .boolean, { frames := 4, cells := 0, slots := 0, locals := 113 })
abbrev MX2_signBeside : gM := (yX2_signBeside, cX2_signBeside, 8, some .int, { frames := 2, cells := 0, slots := 0, locals := 42 })
abbrev MX3_init : gM := (yX3_init, cX3_init, 1, none, { frames := 2, cells := 4, slots := 22, locals := 40 })
abbrev MX3_scan : gM := (yX3_scan, cX3_scan, 3, none, { frames := 5, cells := 0, slots := 0, locals := 105 })
abbrev MX3_take : gM := (yX3_take, cX3_take, 2, some .int, { frames := 4, cells := 0, slots := 0, locals := 84 })
abbrev MX3_takeSign : gM := (yX3_takeSign, cX3_takeSign, 2, some .int, { frames := 3, cells := 0, slots := 0, locals := 63 })
abbrev MX3_takeDigit : gM := (yX3_takeDigit, cX3_takeDigit, 2, some .int, { frames := 0, cells := 0, slots := 0, locals := 0 })
abbrev MX3_takeLetter : gM := (yX3_takeLetter, cX3_takeLetter, 2, some .int, { frames := 0, cells := 0, slots := 0, locals := 0 })
abbrev MX3_openTerm : gM := (yX3_openTerm, cX3_openTerm, 2, none, { frames := 0, cells := 0, slots := 0, locals := 0 })
abbrev MX3_closeTerm : gM := (yX3_closeTerm, cX3_closeTerm, 1, none, { frames := 2, cells := 0, slots := 0, locals := 43 })
abbrev MX4_init : gM := (yX4_init, cX4_init, 1, none, { frames := 1, cells := 1, slots := 3, locals := 20 })
abbrev MX4_allows : gM := (yX4_allows, cX4_allows, 2, some .boolean, { frames := 1, cells := 0, slots := 0, locals := 25 })
abbrev MX4_at : gM := (yX4_at, cX4_at, 2, some .int, { frames := 0, cells := 0, slots := 0, locals := 0 })
abbrev MX4_replace : gM := (yX4_replace, cX4_replace, 4, some .int, { frames := 2, cells := 0, slots := 0, locals := 46 })
abbrev MX4_copyFrom : gM := (yX4_copyFrom, cX4_copyFrom, 3, none, { frames := 0, cells := 0, slots := 0, locals := 0 })
abbrev MX5_init : gM := (yX5_init, cX5_init, 1, none, { frames := 1, cells := 0, slots := 0, locals := 20 })
abbrev MX5_look : gM := (yX5_look, cX5_look, 11, none, { frames := 2, cells := 0, slots := 0, locals := 46 })
abbrev MX5_steepness : gM := (yX5_steepness, cX5_steepness, 1, some .long, { frames := 0, cells := 0, slots := 0, locals := 0 })
abbrev MX6_init : gM := (yX6_init, cX6_init, 1, none, { frames := 3, cells := 35, slots := 895, locals := 61 })
abbrev MX6_copyFrom : gM := (yX6_copyFrom, cX6_copyFrom, 2, none, { frames := 3, cells := 0, slots := 0, locals := 68 })
abbrev MX7_init : gM := (yX7_init, cX7_init, 1, none, { frames := 1, cells := 3, slots := 18, locals := 20 })
abbrev MX7_has : gM := (yX7_has, cX7_has, 2, some .boolean, { frames := 0, cells := 0, slots := 0, locals := 0 })
abbrev MX7_isFull : gM := (yX7_isFull, cX7_isFull, 1, some .boolean, { frames := 0, cells := 0, slots := 0, locals := 0 })
abbrev MX7_add : gM := (yX7_add, cX7_add, 4, none, { frames := 1, cells := 0, slots := 0, locals := 20 })
abbrev MX7_remove : gM := (yX7_remove, cX7_remove, 4, some .int, { frames := 1, cells := 0, slots := 0, locals := 21 })
abbrev MX7_clear : gM := (yX7_clear, cX7_clear, 1, none, { frames := 0, cells := 0, slots := 0, locals := 0 })
abbrev MX7_scale : gM := (yX7_scale, cX7_scale, 2, some .long, { frames := 1, cells := 0, slots := 0, locals := 25 })
abbrev MX7_copyFrom : gM := (yX7_copyFrom, cX7_copyFrom, 3, none, { frames := 0, cells := 0, slots := 0, locals := 0 })
abbrev MX8_init : gM := (yX8_init, cX8_init, 1, none, { frames := 1, cells := 1, slots := 60, locals := 20 })
abbrev MX8_isFull : gM := (yX8_isFull, cX8_isFull, 1, some .boolean, { frames := 0, cells := 0, slots := 0, locals := 0 })
abbrev MX8_append : gM := (yX8_append, cX8_append, 2, none, { frames := 1, cells := 0, slots := 0, locals := 20 })
abbrev MX9_init : gM := (yX9_init, cX9_init, 1, none, { frames := 1, cells := 4, slots := 160, locals := 20 })
abbrev MX9_start : gM := (yX9_start, cX9_start, 5, none, { frames := 0, cells := 0, slots := 0, locals := 0 })
abbrev MX9_addPlace : gM := (yX9_addPlace, cX9_addPlace, 3, none, { frames := 0, cells := 0, slots := 0, locals := 0 })
abbrev MX9_has : gM := (yX9_has, cX9_has, 2, some .boolean, { frames := 0, cells := 0, slots := 0, locals := 0 })
abbrev MX9_condition : gM := (yX9_condition, cX9_condition, 1, some .int, { frames := 0, cells := 0, slots := 0, locals := 0 })
abbrev MX9_lastX : gM := (yX9_lastX, cX9_lastX, 1, some .int, { frames := 1, cells := 0, slots := 0, locals := 21 })
abbrev MX9_lastY : gM := (yX9_lastY, cX9_lastY, 1, some .int, { frames := 1, cells := 0, slots := 0, locals := 21 })
abbrev MX9_changeOfX : gM := (yX9_changeOfX, cX9_changeOfX, 2, some .int, { frames := 1, cells := 0, slots := 0, locals := 21 })
abbrev MX9_changeOfY : gM := (yX9_changeOfY, cX9_changeOfY, 2, some .int, { frames := 1, cells := 0, slots := 0, locals := 21 })
abbrev MX9_placesOfKind : gM := (yX9_placesOfKind, cX9_placesOfKind, 4, some .int, { frames := 0, cells := 0, slots := 0, locals := 0 })
abbrev MX9_nearestTo : gM := (yX9_nearestTo, cX9_nearestTo, 7, some .int, { frames := 2, cells := 0, slots := 0, locals := 50 })
abbrev MX9_squaresTo : gM := (yX9_squaresTo, cX9_squaresTo, 10, some .long, { frames := 1, cells := 0, slots := 0, locals := 21 })
abbrev MX9_copyFrom : gM := (yX9_copyFrom, cX9_copyFrom, 3, none, { frames := 1, cells := 0, slots := 0, locals := 24 })
abbrev MX10_init : gM := (yX10_init, cX10_init, 2, none, { frames := 2, cells := 28, slots := 865, locals := 40 })
abbrev MX10_at : gM := (yX10_at, cX10_at, 2, some (.object "FoldWalks$Walk"), { frames := 0, cells := 0, slots := 0, locals := 0 })
abbrev MX10_isFull : gM := (yX10_isFull, cX10_isFull, 1, some .boolean, { frames := 0, cells := 0, slots := 0, locals := 0 })
abbrev MX10_addOne : gM := (yX10_addOne, cX10_addOne, 1, some (.object "FoldWalks$Walk"), { frames := 1, cells := 0, slots := 0, locals := 20 })
abbrev MX10_clear : gM := (yX10_clear, cX10_clear, 1, none, { frames := 0, cells := 0, slots := 0, locals := 0 })
abbrev MX10_markFamily : gM := (yX10_markFamily, cX10_markFamily, 5, some .int, { frames := 0, cells := 0, slots := 0, locals := 0 })
abbrev MX10_removeFamily : gM := (yX10_removeFamily, cX10_removeFamily, 5, none, { frames := 1, cells := 0, slots := 0, locals := 24 })
abbrev MX10_places : gM := (yX10_places, cX10_places, 3, some .int, { frames := 0, cells := 0, slots := 0, locals := 0 })
abbrev MX10_placesOfKind : gM := (yX10_placesOfKind, cX10_placesOfKind, 4, some .int, { frames := 1, cells := 0, slots := 0, locals := 23 })
abbrev MX10_copyFrom : gM := (yX10_copyFrom, cX10_copyFrom, 3, none, { frames := 2, cells := 0, slots := 0, locals := 46 })
abbrev MX11_init : gM := (yX11_init, cX11_init, 1, none, { frames := 5, cells := 193, slots := 4601, locals := 102 })
abbrev MX11_term : gM := (yX11_term, cX11_term, 4, some .int, { frames := 5, cells := 0, slots := 0, locals := 110 })
abbrev MX11_dropTerm : gM := (yX11_dropTerm, cX11_dropTerm, 2, some .int, { frames := 5, cells := 0, slots := 0, locals := 110 })
abbrev MX11_termOf : gM := (yX11_termOf, cX11_termOf, 3, some .int, { frames := 1, cells := 0, slots := 0, locals := 25 })
abbrev MX11_corrected : gM := (yX11_corrected, cX11_corrected, 5, some .int, { frames := 4, cells := 0, slots := 0, locals := 113 })
abbrev MX11_begin : gM := (yX11_begin, cX11_begin, 4, some .int, { frames := 6, cells := 0, slots := 0, locals := 135 })
abbrev MX11_branch : gM := (yX11_branch, cX11_branch, 5, some .int, { frames := 6, cells := 0, slots := 0, locals := 149 })
abbrev MX11_startWalk : gM := (yX11_startWalk, cX11_startWalk, 6, some .int, { frames := 5, cells := 0, slots := 0, locals := 110 })
abbrev MX11_step : gM := (yX11_step, cX11_step, 5, some .int, { frames := 6, cells := 0, slots := 0, locals := 167 })
abbrev MX11_drop : gM := (yX11_drop, cX11_drop, 2, some .int, { frames := 5, cells := 0, slots := 0, locals := 110 })
abbrev MX11_set : gM := (yX11_set, cX11_set, 3, some .int, { frames := 5, cells := 0, slots := 0, locals := 110 })
abbrev MX11_walkOf : gM := (yX11_walkOf, cX11_walkOf, 4, some .int, { frames := 1, cells := 0, slots := 0, locals := 25 })
abbrev MX11_placeOf : gM := (yX11_placeOf, cX11_placeOf, 5, some .int, { frames := 1, cells := 0, slots := 0, locals := 25 })
abbrev MX11_count : gM := (yX11_count, cX11_count, 2, some .int, { frames := 2, cells := 0, slots := 0, locals := 46 })
abbrev MX11_nearest : gM := (yX11_nearest, cX11_nearest, 5, some .int, { frames := 3, cells := 0, slots := 0, locals := 76 })
abbrev MX11_undo : gM := (yX11_undo, cX11_undo, 1, some .int, { frames := 5, cells := 0, slots := 0, locals := 110 })
abbrev MX11_type : gM := (yX11_type, cX11_type, 2, some .int, { frames := 2, cells := 0, slots := 0, locals := 41 })
abbrev MX11_clearText : gM := (yX11_clearText, cX11_clearText, 2, some .int, { frames := 0, cells := 0, slots := 0, locals := 0 })
abbrev MX11_fault : gM := (yX11_fault, cX11_fault, 2, some .int, { frames := 6, cells := 0, slots := 0, locals := 127 })
abbrev MX11_read : gM := (yX11_read, cX11_read, 1, some .int, { frames := 6, cells := 0, slots := 0, locals := 127 })
abbrev MX11_isWithin : gM := (yX11_isWithin, cX11_isWithin, 6, some .boolean, { frames := 0, cells := 0, slots := 0, locals := 0 })
abbrev MX11_isPlace : gM := (yX11_isPlace, cX11_isPlace, 4, some .boolean, { frames := 1, cells := 0, slots := 0, locals := 25 })
abbrev MX11_isSign : gM := (yX11_isSign, cX11_isSign, 1, some .boolean, { frames := 0, cells := 0, slots := 0, locals := 0 })
abbrev MX11_power : gM := (yX11_power, cX11_power, 6, some .long, { frames := 0, cells := 0, slots := 0, locals := 0 })
abbrev MX11_rootOf : gM := (yX11_rootOf, cX11_rootOf, 8, some .long, { frames := 0, cells := 0, slots := 0, locals := 0 })
abbrev MJ9_max_7cf53 : gM := (yJ9_max_7cf53, cJ9_max_7cf53, 2, some .int, { frames := 0, cells := 0, slots := 0, locals := 0 })
abbrev MJ9_min_7cf53 : gM := (yJ9_min_7cf53, cJ9_min_7cf53, 2, some .int, { frames := 0, cells := 0, slots := 0, locals := 0 })
abbrev ML_lot : gM := (yL_lot, cL_lot, 2, some .int, { frames := 0, cells := 0, slots := 0, locals := 0 })
abbrev ML_low : gM := (yL_low, cL_low, 2, some .int, { frames := 0, cells := 0, slots := 0, locals := 0 })
abbrev ML_digest : gM := (yL_digest, cL_digest, 6, some .long, { frames := 3, cells := 0, slots := 0, locals := 67 })
abbrev ML_holds : gM := (yL_holds, cL_holds, 15, some .boolean, { frames := 5, cells := 0, slots := 0, locals := 137 })
abbrev ML_types : gM := (yL_types, cL_types, 7, some .boolean, { frames := 3, cells := 0, slots := 0, locals := 62 })
abbrev ML_reads : gM := (yL_reads, cL_reads, 7, some .boolean, { frames := 7, cells := 0, slots := 0, locals := 148 })
abbrev ML_acts : gM := (yL_acts, cL_acts, 12, some .boolean, { frames := 8, cells := 0, slots := 0, locals := 191 })
abbrev ML_law : gM := (x, code, 11, some .boolean, room_1)
theorem inGX0 : ∀ w ∈ u_ws RX0 TX0 4, w ∈ gw := by
  intro w hw
  obtain ⟨k, hk, rfl⟩ := List.mem_map.mp hw
  have hk2 := List.mem_range.mp hk
  rcases (show k = 0 ∨ k = 1 ∨ k = 2 ∨ k = 3 by omega) with rfl | rfl | rfl | rfl
  · exact gw_1 225 rfl rfl
  · exact gw_1 227 rfl rfl
  · exact gw_1 229 rfl rfl
  · exact gw_1 231 rfl rfl
theorem inGX1 : ∀ w ∈ u_ws RX1 TX1 3, w ∈ gw := by
  intro w hw
  obtain ⟨k, hk, rfl⟩ := List.mem_map.mp hw
  have hk2 := List.mem_range.mp hk
  rcases (show k = 0 ∨ k = 1 ∨ k = 2 by omega) with rfl | rfl | rfl
  · exact gw_1 171 rfl rfl
  · exact gw_1 173 rfl rfl
  · exact gw_1 175 rfl rfl
theorem inGX2 : ∀ w ∈ u_ws RX2 TX2 2, w ∈ gw := by
  intro w hw
  obtain ⟨k, hk, rfl⟩ := List.mem_map.mp hw
  have hk2 := List.mem_range.mp hk
  rcases (show k = 0 ∨ k = 1 by omega) with rfl | rfl
  · exact gw_1 239 rfl rfl
  · exact gw_2 1 rfl rfl
theorem inGX3 : ∀ w ∈ u_ws RX3 TX3 8, w ∈ gw := by
  intro w hw
  obtain ⟨k, hk, rfl⟩ := List.mem_map.mp hw
  have hk2 := List.mem_range.mp hk
  rcases (show k = 0 ∨ k = 1 ∨ k = 2 ∨ k = 3 ∨ k = 4 ∨ k = 5 ∨ k = 6 ∨ k = 7 by omega) with rfl | rfl | rfl | rfl | rfl | rfl | rfl | rfl
  · exact gw_2 39 rfl rfl
  · exact gw_2 41 rfl rfl
  · exact gw_2 43 rfl rfl
  · exact gw_2 45 rfl rfl
  · exact gw_2 47 rfl rfl
  · exact gw_2 49 rfl rfl
  · exact gw_2 51 rfl rfl
  · exact gw_2 53 rfl rfl
theorem inGX4 : ∀ w ∈ u_ws RX4 TX4 1, w ∈ gw := by
  intro w hw
  obtain ⟨k, hk, rfl⟩ := List.mem_map.mp hw
  have hk2 := List.mem_range.mp hk
  have hk3 : k = 0 := by omega
  subst hk3
  exact gw_1 138 rfl rfl
theorem inGX5 : ∀ w ∈ u_ws RX5 TX5 3, w ∈ gw := by
  intro w hw
  obtain ⟨k, hk, rfl⟩ := List.mem_map.mp hw
  have hk2 := List.mem_range.mp hk
  rcases (show k = 0 ∨ k = 1 ∨ k = 2 by omega) with rfl | rfl | rfl
  · exact gw_1 204 rfl rfl
  · exact gw_1 206 rfl rfl
  · exact gw_1 208 rfl rfl
theorem inGX6 : ∀ w ∈ u_ws RX6 TX6 3, w ∈ gw := by
  intro w hw
  obtain ⟨k, hk, rfl⟩ := List.mem_map.mp hw
  have hk2 := List.mem_range.mp hk
  rcases (show k = 0 ∨ k = 1 ∨ k = 2 by omega) with rfl | rfl | rfl
  · exact gw_1 151 rfl rfl
  · exact gw_1 153 rfl rfl
  · exact gw_1 155 rfl rfl
theorem inGX7 : ∀ w ∈ u_ws RX7 TX7 4, w ∈ gw := by
  intro w hw
  obtain ⟨k, hk, rfl⟩ := List.mem_map.mp hw
  have hk2 := List.mem_range.mp hk
  rcases (show k = 0 ∨ k = 1 ∨ k = 2 ∨ k = 3 by omega) with rfl | rfl | rfl | rfl
  · exact gw_1 46 rfl rfl
  · exact gw_1 48 rfl rfl
  · exact gw_1 50 rfl rfl
  · exact gw_1 52 rfl rfl
theorem inGX8 : ∀ w ∈ u_ws RX8 TX8 2, w ∈ gw := by
  intro w hw
  obtain ⟨k, hk, rfl⟩ := List.mem_map.mp hw
  have hk2 := List.mem_range.mp hk
  rcases (show k = 0 ∨ k = 1 by omega) with rfl | rfl
  · exact gw_2 15 rfl rfl
  · exact gw_2 17 rfl rfl
theorem inGX9 : ∀ w ∈ u_ws RX9 TX9 10, w ∈ gw := by
  intro w hw
  obtain ⟨k, hk, rfl⟩ := List.mem_map.mp hw
  have hk2 := List.mem_range.mp hk
  rcases (show k = 0 ∨ k = 1 ∨ k = 2 ∨ k = 3 ∨ k = 4 ∨ k = 5 ∨ k = 6 ∨ k = 7 ∨ k = 8 ∨ k = 9 by omega) with rfl | rfl | rfl | rfl | rfl | rfl | rfl | rfl | rfl | rfl
  · exact gw_1 95 rfl rfl
  · exact gw_1 97 rfl rfl
  · exact gw_1 99 rfl rfl
  · exact gw_1 101 rfl rfl
  · exact gw_1 103 rfl rfl
  · exact gw_1 105 rfl rfl
  · exact gw_1 107 rfl rfl
  · exact gw_1 109 rfl rfl
  · exact gw_1 111 rfl rfl
  · exact gw_1 113 rfl rfl
theorem inGX10 : ∀ w ∈ u_ws RX10 TX10 4, w ∈ gw := by
  intro w hw
  obtain ⟨k, hk, rfl⟩ := List.mem_map.mp hw
  have hk2 := List.mem_range.mp hk
  rcases (show k = 0 ∨ k = 1 ∨ k = 2 ∨ k = 3 by omega) with rfl | rfl | rfl | rfl
  · exact gw_1 122 rfl rfl
  · exact gw_1 124 rfl rfl
  · exact gw_1 126 rfl rfl
  · exact gw_1 128 rfl rfl
theorem inGX11 : ∀ w ∈ u_ws RX11 TX11 5, w ∈ gw := by
  intro w hw
  obtain ⟨k, hk, rfl⟩ := List.mem_map.mp hw
  have hk2 := List.mem_range.mp hk
  rcases (show k = 0 ∨ k = 1 ∨ k = 2 ∨ k = 3 ∨ k = 4 by omega) with rfl | rfl | rfl | rfl | rfl
  · exact gw_2 61 rfl rfl
  · exact gw_2 63 rfl rfl
  · exact gw_2 65 rfl rfl
  · exact gw_2 67 rfl rfl
  · exact gw_2 69 rfl rfl
theorem oiX0_1 : Cond.methodLink RX0 1 objectInit ∈ gw := gw_1 189 rfl rfl
theorem clX0_7 : Cond.classLink RX0 7 RX5 ∈ gw := gw_1 190 rfl rfl
theorem lkX0_9 : gLkI RX0 9 MX5_init 0 := ⟨⟨⟨gw_1 194 rfl rfl, gw_1 10 rfl rfl, by decide, by decide, by decide +kernel⟩, Or.inr ⟨"FoldWalks", gnw_1 192 rfl rfl⟩⟩, gw_1 193 rfl rfl, rfl, rfl⟩
theorem ffX0_10 : gFf RX0 10 0 0 (.object "FoldWalks$Spot") := ⟨TX0, 4, tyX0, rfl, by decide, rfl, by decide, inGX0, tyX0_ok, nmX0, rfl, rfl, rfl, rfl, gw_1 211 rfl rfl⟩
theorem fX0_16 : gFl RX0 16 6 2 0 (.object "FoldWalks$Settings") true := ⟨RX6, TX6, 3, tyX6, rfl, by decide, rfl, by decide, inGX6, tyX6_ok, nmX6, rfl, rfl, rfl, Or.inr ⟨"FoldWalks", gnw_1 148 rfl rfl⟩⟩
theorem lkX0_24 : gLkV RX0 24 MX4_at 1 4 := ⟨⟨⟨gw_2 148 rfl rfl, gw_1 6 rfl rfl, by decide, by decide, by decide +kernel⟩, Or.inl (gw_2 227 rfl rfl)⟩, gw_2 146 rfl rfl, gw_2 147 rfl rfl, by decide, TX4, 1, rfl⟩
theorem lkX0_28 : gLkS RX0 28 MX11_isPlace 2 := ⟨⟨⟨gw_2 220 rfl rfl, gw_1 1 rfl rfl, by decide, by decide, by decide +kernel⟩, Or.inr ⟨"FoldWalks", gnw_2 228 rfl rfl⟩⟩, gw_2 219 rfl rfl⟩
theorem fX0_10 : gFl RX0 10 0 0 0 (.object "FoldWalks$Spot") true := ⟨RX0, TX0, 4, tyX0, rfl, by decide, rfl, by decide, inGX0, tyX0_ok, nmX0, rfl, rfl, rfl, Or.inl (gw_1 211 rfl rfl)⟩
theorem fX0_34 : gFl RX0 34 6 0 0 (.object "FoldWalks$Terms") true := ⟨RX6, TX6, 3, tyX6, rfl, by decide, rfl, by decide, inGX6, tyX6_ok, nmX6, rfl, rfl, rfl, Or.inr ⟨"FoldWalks", gnw_1 143 rfl rfl⟩⟩
theorem lkX0_38 : gLkV RX0 38 MX5_look 3 5 := ⟨⟨⟨gw_2 232 rfl rfl, gw_1 10 rfl rfl, by decide, by decide, by decide +kernel⟩, Or.inl (gw_2 229 rfl rfl)⟩, gw_2 230 rfl rfl, gw_2 231 rfl rfl, by decide, TX5, 3, rfl⟩
theorem lkX0_42 : gLkV RX0 42 MX5_steepness 0 5 := ⟨⟨⟨gw_3 6 rfl rfl, gw_1 10 rfl rfl, by decide, by decide, by decide +kernel⟩, Or.inl (gw_3 3 rfl rfl)⟩, gw_3 4 rfl rfl, gw_3 5 rfl rfl, by decide, TX5, 3, rfl⟩
theorem fX0_46 : gFl RX0 46 5 0 2 .long false := ⟨RX5, TX5, 3, tyX5, rfl, by decide, rfl, by decide, inGX5, tyX5_ok, nmX5, rfl, rfl, rfl, Or.inr ⟨"FoldWalks", gnw_1 197 rfl rfl⟩⟩
theorem fX0_50 : gFl RX0 50 5 1 2 .long false := ⟨RX5, TX5, 3, tyX5, rfl, by decide, rfl, by decide, inGX5, tyX5_ok, nmX5, rfl, rfl, rfl, Or.inr ⟨"FoldWalks", gnw_1 199 rfl rfl⟩⟩
theorem fX0_53 : gFl RX0 53 5 2 2 .long false := ⟨RX5, TX5, 3, tyX5, rfl, by decide, rfl, by decide, inGX5, tyX5_ok, nmX5, rfl, rfl, rfl, Or.inr ⟨"FoldWalks", gnw_1 202 rfl rfl⟩⟩
theorem fX0_56 : gFl RX0 56 0 1 1 .int false := ⟨RX0, TX0, 4, tyX0, rfl, by decide, rfl, by decide, inGX0, tyX0_ok, nmX0, rfl, rfl, rfl, Or.inl (gw_1 213 rfl rfl)⟩
theorem fX0_60 : gFl RX0 60 0 2 1 .int false := ⟨RX0, TX0, 4, tyX0, rfl, by decide, rfl, by decide, inGX0, tyX0_ok, nmX0, rfl, rfl, rfl, Or.inl (gw_1 217 rfl rfl)⟩
theorem fX0_63 : gFl RX0 63 0 3 1 .int false := ⟨RX0, TX0, 4, tyX0, rfl, by decide, rfl, by decide, inGX0, tyX0_ok, nmX0, rfl, rfl, rfl, Or.inl (gw_1 221 rfl rfl)⟩
theorem oiX1_3 : Cond.methodLink RX1 3 objectInit ∈ gw := gw_1 163 rfl rfl
theorem clX1_9 : Cond.classLink RX1 9 RX6 ∈ gw := gw_1 164 rfl rfl
theorem ffX1_11 : gFf RX1 11 1 0 (.array (.object "FoldWalks$State")) := ⟨TX1, 3, tyX1, rfl, by decide, rfl, by decide, inGX1, tyX1_ok, nmX1, rfl, rfl, rfl, rfl, gw_1 167 rfl rfl⟩
theorem fX1_11 : gFl RX1 11 1 0 0 (.array (.object "FoldWalks$State")) true := ⟨RX1, TX1, 3, tyX1, rfl, by decide, rfl, by decide, inGX1, tyX1_ok, nmX1, rfl, rfl, rfl, Or.inl (gw_1 167 rfl rfl)⟩
theorem lkX1_17 : gLkI RX1 17 MX6_init 0 := ⟨⟨⟨gw_1 26 rfl rfl, gw_1 2 rfl rfl, by decide, by decide, by decide +kernel⟩, Or.inr ⟨"FoldWalks", gnw_1 166 rfl rfl⟩⟩, gw_1 25 rfl rfl, rfl, rfl⟩
theorem fX1_18 : gFl RX1 18 1 2 1 .int false := ⟨RX1, TX1, 3, tyX1, rfl, by decide, rfl, by decide, inGX1, tyX1_ok, nmX1, rfl, rfl, rfl, Or.inl (gw_1 169 rfl rfl)⟩
theorem fX1_22 : gFl RX1 22 1 1 1 .int false := ⟨RX1, TX1, 3, tyX1, rfl, by decide, rfl, by decide, inGX1, tyX1_ok, nmX1, rfl, rfl, rfl, Or.inl (gw_1 168 rfl rfl)⟩
theorem lkX1_25 : gLkV RX1 25 MX1_latest 0 1 := ⟨⟨⟨gw_2 95 rfl rfl, gw_1 7 rfl rfl, by decide, by decide, by decide +kernel⟩, Or.inl (gw_2 92 rfl rfl)⟩, gw_2 94 rfl rfl, gw_in 0 rfl rfl, by decide, TX1, 3, rfl⟩
theorem lkX1_29 : gLkV RX1 29 MX6_copyFrom 1 6 := ⟨⟨⟨gw_2 99 rfl rfl, gw_1 2 rfl rfl, by decide, by decide, by decide +kernel⟩, Or.inl (gw_2 96 rfl rfl)⟩, gw_2 97 rfl rfl, gw_2 98 rfl rfl, by decide, TX6, 3, rfl⟩
theorem oiX2_3 : Cond.methodLink RX2 3 objectInit ∈ gw := gw_1 183 rfl rfl
theorem clX2_9 : Cond.classLink RX2 9 RX0 ∈ gw := gw_1 184 rfl rfl
theorem lkX2_11 : gLkI RX2 11 MX0_init 0 := ⟨⟨⟨gw_1 188 rfl rfl, gw_1 9 rfl rfl, by decide, by decide, by decide +kernel⟩, Or.inr ⟨"FoldWalks", gnw_1 186 rfl rfl⟩⟩, gw_1 187 rfl rfl, rfl, rfl⟩
theorem ffX2_12 : gFf RX2 12 2 0 (.object "FoldWalks$Corrector") := ⟨TX2, 2, tyX2, rfl, by decide, rfl, by decide, inGX2, tyX2_ok, nmX2, rfl, rfl, rfl, rfl, gw_1 236 rfl rfl⟩
theorem clX2_18 : Cond.classLink RX2 18 RX5 ∈ gw := gw_1 234 rfl rfl
theorem lkX2_20 : gLkI RX2 20 MX5_init 0 := ⟨⟨⟨gw_1 194 rfl rfl, gw_1 10 rfl rfl, by decide, by decide, by decide +kernel⟩, Or.inr ⟨"FoldWalks", gnw_1 235 rfl rfl⟩⟩, gw_1 193 rfl rfl, rfl, rfl⟩
theorem ffX2_21 : gFf RX2 21 2 1 (.object "FoldWalks$Spot") := ⟨TX2, 2, tyX2, rfl, by decide, rfl, by decide, inGX2, tyX2_ok, nmX2, rfl, rfl, rfl, rfl, gw_1 238 rfl rfl⟩
theorem fX2_21 : gFl RX2 21 2 1 0 (.object "FoldWalks$Spot") true := ⟨RX2, TX2, 2, tyX2, rfl, by decide, rfl, by decide, inGX2, tyX2_ok, nmX2, rfl, rfl, rfl, Or.inl (gw_1 238 rfl rfl)⟩
theorem fX2_25 : gFl RX2 25 6 0 0 (.object "FoldWalks$Terms") true := ⟨RX6, TX6, 3, tyX6, rfl, by decide, rfl, by decide, inGX6, tyX6_ok, nmX6, rfl, rfl, rfl, Or.inr ⟨"FoldWalks", gnw_1 142 rfl rfl⟩⟩
theorem lkX2_31 : gLkV RX2 31 MX9_lastX 0 9 := ⟨⟨⟨gw_3 131 rfl rfl, gw_1 5 rfl rfl, by decide, by decide, by decide +kernel⟩, Or.inl (gw_3 128 rfl rfl)⟩, gw_3 129 rfl rfl, gw_3 130 rfl rfl, by decide, TX9, 10, rfl⟩
theorem lkX2_37 : gLkV RX2 37 MX9_lastY 0 9 := ⟨⟨⟨gw_3 135 rfl rfl, gw_1 5 rfl rfl, by decide, by decide, by decide +kernel⟩, Or.inl (gw_3 132 rfl rfl)⟩, gw_3 133 rfl rfl, gw_3 134 rfl rfl, by decide, TX9, 10, rfl⟩
theorem lkX2_40 : gLkV RX2 40 MX5_look 3 5 := ⟨⟨⟨gw_2 232 rfl rfl, gw_1 10 rfl rfl, by decide, by decide, by decide +kernel⟩, Or.inl (gw_3 136 rfl rfl)⟩, gw_2 230 rfl rfl, gw_2 231 rfl rfl, by decide, TX5, 3, rfl⟩
theorem lkX2_44 : gLkV RX2 44 MX5_steepness 0 5 := ⟨⟨⟨gw_3 6 rfl rfl, gw_1 10 rfl rfl, by decide, by decide, by decide +kernel⟩, Or.inl (gw_3 137 rfl rfl)⟩, gw_3 4 rfl rfl, gw_3 5 rfl rfl, by decide, TX5, 3, rfl⟩
theorem lkX2_48 : gLkS RX2 48 MX11_rootOf 1 := ⟨⟨⟨gw_3 140 rfl rfl, gw_1 1 rfl rfl, by decide, by decide, by decide +kernel⟩, Or.inr ⟨"FoldWalks", gnw_3 138 rfl rfl⟩⟩, gw_3 139 rfl rfl⟩
theorem fX2_52 : gFl RX2 52 9 6 1 .int false := ⟨RX9, TX9, 10, tyX9, rfl, by decide, rfl, by decide, inGX9, tyX9_ok, nmX9, rfl, rfl, rfl, Or.inr ⟨"FoldWalks", gnw_1 86 rfl rfl⟩⟩
theorem lkX2_56 : gLkV RX2 56 MX2_arrives 3 2 := ⟨⟨⟨gw_3 145 rfl rfl, gw_1 8 rfl rfl, by decide, by decide, by decide +kernel⟩, Or.inl (gw_3 142 rfl rfl)⟩, gw_3 144 rfl rfl, gw_in 9 rfl rfl, by decide, TX2, 2, rfl⟩
theorem fX2_60 : gFl RX2 60 6 2 0 (.object "FoldWalks$Settings") true := ⟨RX6, TX6, 3, tyX6, rfl, by decide, rfl, by decide, inGX6, tyX6_ok, nmX6, rfl, rfl, rfl, Or.inr ⟨"FoldWalks", gnw_1 149 rfl rfl⟩⟩
theorem lkX2_66 : gLkV RX2 66 MX4_at 1 4 := ⟨⟨⟨gw_2 148 rfl rfl, gw_1 6 rfl rfl, by decide, by decide, by decide +kernel⟩, Or.inl (gw_3 147 rfl rfl)⟩, gw_2 146 rfl rfl, gw_2 147 rfl rfl, by decide, TX4, 1, rfl⟩
theorem lkX2_70 : gLkV RX2 70 MX2_land 2 2 := ⟨⟨⟨gw_3 151 rfl rfl, gw_1 8 rfl rfl, by decide, by decide, by decide +kernel⟩, Or.inl (gw_3 148 rfl rfl)⟩, gw_3 150 rfl rfl, gw_in 10 rfl rfl, by decide, TX2, 2, rfl⟩
theorem fX2_74 : gFl RX2 74 9 7 1 .boolean false := ⟨RX9, TX9, 10, tyX9, rfl, by decide, rfl, by decide, inGX9, tyX9_ok, nmX9, rfl, rfl, rfl, Or.inr ⟨"FoldWalks", gnw_1 89 rfl rfl⟩⟩
theorem fX2_78 : gFl RX2 78 9 5 1 .int false := ⟨RX9, TX9, 10, tyX9, rfl, by decide, rfl, by decide, inGX9, tyX9_ok, nmX9, rfl, rfl, rfl, Or.inr ⟨"FoldWalks", gnw_1 83 rfl rfl⟩⟩
theorem fX2_81 : gFl RX2 81 5 2 2 .long false := ⟨RX5, TX5, 3, tyX5, rfl, by decide, rfl, by decide, inGX5, tyX5_ok, nmX5, rfl, rfl, rfl, Or.inr ⟨"FoldWalks", gnw_1 203 rfl rfl⟩⟩
theorem fX2_85 : gFl RX2 85 5 1 2 .long false := ⟨RX5, TX5, 3, tyX5, rfl, by decide, rfl, by decide, inGX5, tyX5_ok, nmX5, rfl, rfl, rfl, Or.inr ⟨"FoldWalks", gnw_1 200 rfl rfl⟩⟩
theorem fX2_12 : gFl RX2 12 2 0 0 (.object "FoldWalks$Corrector") true := ⟨RX2, TX2, 2, tyX2, rfl, by decide, rfl, by decide, inGX2, tyX2_ok, nmX2, rfl, rfl, rfl, Or.inl (gw_1 236 rfl rfl)⟩
theorem lkX2_88 : gLkV RX2 88 MX0_correct 3 0 := ⟨⟨⟨gw_2 226 rfl rfl, gw_1 9 rfl rfl, by decide, by decide, by decide +kernel⟩, Or.inl (gw_3 146 rfl rfl)⟩, gw_2 224 rfl rfl, gw_2 225 rfl rfl, by decide, TX0, 4, rfl⟩
theorem fX2_92 : gFl RX2 92 0 1 1 .int false := ⟨RX0, TX0, 4, tyX0, rfl, by decide, rfl, by decide, inGX0, tyX0_ok, nmX0, rfl, rfl, rfl, Or.inr ⟨"FoldWalks", gnw_1 215 rfl rfl⟩⟩
theorem fX2_95 : gFl RX2 95 0 2 1 .int false := ⟨RX0, TX0, 4, tyX0, rfl, by decide, rfl, by decide, inGX0, tyX0_ok, nmX0, rfl, rfl, rfl, Or.inr ⟨"FoldWalks", gnw_1 219 rfl rfl⟩⟩
theorem fX2_98 : gFl RX2 98 0 0 0 (.object "FoldWalks$Spot") true := ⟨RX0, TX0, 4, tyX0, rfl, by decide, rfl, by decide, inGX0, tyX0_ok, nmX0, rfl, rfl, rfl, Or.inr ⟨"FoldWalks", gnw_1 212 rfl rfl⟩⟩
theorem lkX2_101 : gLkV RX2 101 MX9_addPlace 2 9 := ⟨⟨⟨gw_3 116 rfl rfl, gw_1 5 rfl rfl, by decide, by decide, by decide +kernel⟩, Or.inl (gw_3 152 rfl rfl)⟩, gw_3 114 rfl rfl, gw_3 115 rfl rfl, by decide, TX9, 10, rfl⟩
theorem fX2_105 : gFl RX2 105 0 3 1 .int false := ⟨RX0, TX0, 4, tyX0, rfl, by decide, rfl, by decide, inGX0, tyX0_ok, nmX0, rfl, rfl, rfl, Or.inr ⟨"FoldWalks", gnw_1 223 rfl rfl⟩⟩
theorem lkX2_108 : gLkS RX2 108 MJ9_min_7cf53 2 := ⟨⟨⟨gw_3 155 rfl rfl, gw_1 13 rfl rfl, by decide, by decide, by decide +kernel⟩, Or.inl (gw_3 153 rfl rfl)⟩, gw_3 154 rfl rfl⟩
theorem lkX2_114 : gLkS RX2 114 MJ9_max_7cf53 2 := ⟨⟨⟨gw_3 158 rfl rfl, gw_1 13 rfl rfl, by decide, by decide, by decide +kernel⟩, Or.inl (gw_3 156 rfl rfl)⟩, gw_3 157 rfl rfl⟩
theorem lkX2_117 : gLkV RX2 117 MX9_changeOfX 1 9 := ⟨⟨⟨gw_3 170 rfl rfl, gw_1 5 rfl rfl, by decide, by decide, by decide +kernel⟩, Or.inl (gw_3 167 rfl rfl)⟩, gw_3 168 rfl rfl, gw_3 169 rfl rfl, by decide, TX9, 10, rfl⟩
theorem lkX2_120 : gLkV RX2 120 MX9_changeOfY 1 9 := ⟨⟨⟨gw_3 174 rfl rfl, gw_1 5 rfl rfl, by decide, by decide, by decide +kernel⟩, Or.inl (gw_3 171 rfl rfl)⟩, gw_3 172 rfl rfl, gw_3 173 rfl rfl, by decide, TX9, 10, rfl⟩
theorem lkX2_123 : gLkV RX2 123 MX9_has 1 9 := ⟨⟨⟨gw_2 207 rfl rfl, gw_1 5 rfl rfl, by decide, by decide, by decide +kernel⟩, Or.inl (gw_3 175 rfl rfl)⟩, gw_2 205 rfl rfl, gw_2 206 rfl rfl, by decide, TX9, 10, rfl⟩
theorem fX2_127 : gFl RX2 127 9 0 0 (.array .int) true := ⟨RX9, TX9, 10, tyX9, rfl, by decide, rfl, by decide, inGX9, tyX9_ok, nmX9, rfl, rfl, rfl, Or.inr ⟨"FoldWalks", gnw_1 70 rfl rfl⟩⟩
theorem fX2_131 : gFl RX2 131 9 1 0 (.array .int) true := ⟨RX9, TX9, 10, tyX9, rfl, by decide, rfl, by decide, inGX9, tyX9_ok, nmX9, rfl, rfl, rfl, Or.inr ⟨"FoldWalks", gnw_1 73 rfl rfl⟩⟩
theorem oiX3_3 : Cond.methodLink RX3 3 objectInit ∈ gw := gw_2 25 rfl rfl
theorem clX3_9 : Cond.classLink RX3 9 RX7 ∈ gw := gw_2 26 rfl rfl
theorem lkX3_11 : gLkI RX3 11 MX7_init 0 := ⟨⟨⟨gw_1 32 rfl rfl, gw_1 3 rfl rfl, by decide, by decide, by decide +kernel⟩, Or.inr ⟨"FoldWalks", gnw_2 27 rfl rfl⟩⟩, gw_1 31 rfl rfl, rfl, rfl⟩
theorem ffX3_12 : gFf RX3 12 3 0 (.object "FoldWalks$Terms") := ⟨TX3, 8, tyX3, rfl, by decide, rfl, by decide, inGX3, tyX3_ok, nmX3, rfl, rfl, rfl, rfl, gw_2 28 rfl rfl⟩
theorem fX3_12 : gFl RX3 12 3 0 0 (.object "FoldWalks$Terms") true := ⟨RX3, TX3, 8, tyX3, rfl, by decide, rfl, by decide, inGX3, tyX3_ok, nmX3, rfl, rfl, rfl, Or.inl (gw_2 28 rfl rfl)⟩
theorem lkX3_18 : gLkV RX3 18 MX7_clear 0 7 := ⟨⟨⟨gw_3 56 rfl rfl, gw_1 3 rfl rfl, by decide, by decide, by decide +kernel⟩, Or.inl (gw_3 53 rfl rfl)⟩, gw_3 54 rfl rfl, gw_3 55 rfl rfl, by decide, TX7, 4, rfl⟩
theorem fX3_21 : gFl RX3 21 3 3 1 .int false := ⟨RX3, TX3, 8, tyX3, rfl, by decide, rfl, by decide, inGX3, tyX3_ok, nmX3, rfl, rfl, rfl, Or.inl (gw_2 34 rfl rfl)⟩
theorem fX3_25 : gFl RX3 25 3 2 1 .int false := ⟨RX3, TX3, 8, tyX3, rfl, by decide, rfl, by decide, inGX3, tyX3_ok, nmX3, rfl, rfl, rfl, Or.inl (gw_2 32 rfl rfl)⟩
theorem lkX3_28 : gLkV RX3 28 MX3_openTerm 1 3 := ⟨⟨⟨gw_3 60 rfl rfl, gw_1 12 rfl rfl, by decide, by decide, by decide +kernel⟩, Or.inl (gw_3 57 rfl rfl)⟩, gw_3 59 rfl rfl, gw_in 2 rfl rfl, by decide, TX3, 8, rfl⟩
theorem fX3_32 : gFl RX3 32 8 1 1 .int false := ⟨RX8, TX8, 2, tyX8, rfl, by decide, rfl, by decide, inGX8, tyX8_ok, nmX8, rfl, rfl, rfl, Or.inr ⟨"FoldWalks", gnw_2 13 rfl rfl⟩⟩
theorem fX3_37 : gFl RX3 37 3 1 1 .int false := ⟨RX3, TX3, 8, tyX3, rfl, by decide, rfl, by decide, inGX3, tyX3_ok, nmX3, rfl, rfl, rfl, Or.inl (gw_2 30 rfl rfl)⟩
theorem fX3_40 : gFl RX3 40 8 0 0 (.array .int) true := ⟨RX8, TX8, 2, tyX8, rfl, by decide, rfl, by decide, inGX8, tyX8_ok, nmX8, rfl, rfl, rfl, Or.inr ⟨"FoldWalks", gnw_2 11 rfl rfl⟩⟩
theorem lkX3_44 : gLkV RX3 44 MX3_take 1 3 := ⟨⟨⟨gw_3 64 rfl rfl, gw_1 12 rfl rfl, by decide, by decide, by decide +kernel⟩, Or.inl (gw_3 61 rfl rfl)⟩, gw_3 63 rfl rfl, gw_in 3 rfl rfl, by decide, TX3, 8, rfl⟩
theorem lkX3_48 : gLkV RX3 48 MX3_closeTerm 0 3 := ⟨⟨⟨gw_3 72 rfl rfl, gw_1 12 rfl rfl, by decide, by decide, by decide +kernel⟩, Or.inl (gw_3 69 rfl rfl)⟩, gw_3 71 rfl rfl, gw_in 5 rfl rfl, by decide, TX3, 8, rfl⟩
theorem lkX3_51 : gLkV RX3 51 MX3_takeSign 1 3 := ⟨⟨⟨gw_3 68 rfl rfl, gw_1 12 rfl rfl, by decide, by decide, by decide +kernel⟩, Or.inl (gw_3 65 rfl rfl)⟩, gw_3 67 rfl rfl, gw_in 4 rfl rfl, by decide, TX3, 8, rfl⟩
theorem lkX3_54 : gLkV RX3 54 MX3_takeDigit 1 3 := ⟨⟨⟨gw_3 78 rfl rfl, gw_1 12 rfl rfl, by decide, by decide, by decide +kernel⟩, Or.inl (gw_3 75 rfl rfl)⟩, gw_3 77 rfl rfl, gw_in 6 rfl rfl, by decide, TX3, 8, rfl⟩
theorem lkX3_57 : gLkV RX3 57 MX3_takeLetter 1 3 := ⟨⟨⟨gw_3 82 rfl rfl, gw_1 12 rfl rfl, by decide, by decide, by decide +kernel⟩, Or.inl (gw_3 79 rfl rfl)⟩, gw_3 81 rfl rfl, gw_in 7 rfl rfl, by decide, TX3, 8, rfl⟩
theorem lkX3_61 : gLkV RX3 61 MX7_isFull 0 7 := ⟨⟨⟨gw_2 86 rfl rfl, gw_1 3 rfl rfl, by decide, by decide, by decide +kernel⟩, Or.inl (gw_3 74 rfl rfl)⟩, gw_2 84 rfl rfl, gw_2 85 rfl rfl, by decide, TX7, 4, rfl⟩
theorem fX3_65 : gFl RX3 65 3 5 1 .int false := ⟨RX3, TX3, 8, tyX3, rfl, by decide, rfl, by decide, inGX3, tyX3_ok, nmX3, rfl, rfl, rfl, Or.inl (gw_2 36 rfl rfl)⟩
theorem fX3_68 : gFl RX3 68 3 6 1 .int false := ⟨RX3, TX3, 8, tyX3, rfl, by decide, rfl, by decide, inGX3, tyX3_ok, nmX3, rfl, rfl, rfl, Or.inl (gw_2 37 rfl rfl)⟩
theorem fX3_71 : gFl RX3 71 3 7 1 .int false := ⟨RX3, TX3, 8, tyX3, rfl, by decide, rfl, by decide, inGX3, tyX3_ok, nmX3, rfl, rfl, rfl, Or.inl (gw_2 38 rfl rfl)⟩
theorem fX3_74 : gFl RX3 74 3 4 1 .int false := ⟨RX3, TX3, 8, tyX3, rfl, by decide, rfl, by decide, inGX3, tyX3_ok, nmX3, rfl, rfl, rfl, Or.inl (gw_2 35 rfl rfl)⟩
theorem lkX3_77 : gLkV RX3 77 MX7_add 3 7 := ⟨⟨⟨gw_2 127 rfl rfl, gw_1 3 rfl rfl, by decide, by decide, by decide +kernel⟩, Or.inl (gw_3 73 rfl rfl)⟩, gw_2 125 rfl rfl, gw_2 126 rfl rfl, by decide, TX7, 4, rfl⟩
theorem oiX4_1 : Cond.methodLink RX4 1 objectInit ∈ gw := gw_1 136 rfl rfl
theorem ffX4_7 : gFf RX4 7 4 0 (.array .int) := ⟨TX4, 1, tyX4, rfl, by decide, rfl, by decide, inGX4, tyX4_ok, nmX4, rfl, rfl, rfl, rfl, gw_1 137 rfl rfl⟩
theorem gsX4_13 : Cond.fieldLink RX4 13 RX4 "LEAST" "[I" ∈ gw := gw_3 196 rfl rfl
theorem gsX4_16 : Cond.fieldLink RX4 16 RX4 "GREATEST" "[I" ∈ gw := gw_3 198 rfl rfl
theorem lkX4_19 : gLkS RX4 19 MX11_isWithin 3 := ⟨⟨⟨gw_2 80 rfl rfl, gw_1 1 rfl rfl, by decide, by decide, by decide +kernel⟩, Or.inr ⟨"FoldWalks", gnw_3 200 rfl rfl⟩⟩, gw_2 79 rfl rfl⟩
theorem fX4_7 : gFl RX4 7 4 0 0 (.array .int) true := ⟨RX4, TX4, 1, tyX4, rfl, by decide, rfl, by decide, inGX4, tyX4_ok, nmX4, rfl, rfl, rfl, Or.inl (gw_1 137 rfl rfl)⟩
theorem lkX4_25 : gLkS RX4 25 MX4_allows 2 := ⟨⟨⟨gw_3 195 rfl rfl, gw_1 6 rfl rfl, by decide, by decide, by decide +kernel⟩, Or.inl (gw_3 205 rfl rfl)⟩, gw_3 194 rfl rfl⟩
theorem oiX5_1 : Cond.methodLink RX5 1 objectInit ∈ gw := gw_1 195 rfl rfl
theorem fX5_7 : gFl RX5 7 5 0 2 .long false := ⟨RX5, TX5, 3, tyX5, rfl, by decide, rfl, by decide, inGX5, tyX5_ok, nmX5, rfl, rfl, rfl, Or.inl (gw_1 196 rfl rfl)⟩
theorem fX5_13 : gFl RX5 13 5 1 2 .long false := ⟨RX5, TX5, 3, tyX5, rfl, by decide, rfl, by decide, inGX5, tyX5_ok, nmX5, rfl, rfl, rfl, Or.inl (gw_1 198 rfl rfl)⟩
theorem fX5_16 : gFl RX5 16 5 2 2 .long false := ⟨RX5, TX5, 3, tyX5, rfl, by decide, rfl, by decide, inGX5, tyX5_ok, nmX5, rfl, rfl, rfl, Or.inl (gw_1 201 rfl rfl)⟩
theorem fX5_19 : gFl RX5 19 7 3 1 .int false := ⟨RX7, TX7, 4, tyX7, rfl, by decide, rfl, by decide, inGX7, tyX7_ok, nmX7, rfl, rfl, rfl, Or.inr ⟨"FoldWalks", gnw_1 44 rfl rfl⟩⟩
theorem fX5_25 : gFl RX5 25 7 1 0 (.array .int) true := ⟨RX7, TX7, 4, tyX7, rfl, by decide, rfl, by decide, inGX7, tyX7_ok, nmX7, rfl, rfl, rfl, Or.inr ⟨"FoldWalks", gnw_1 38 rfl rfl⟩⟩
theorem fX5_29 : gFl RX5 29 7 2 0 (.array .int) true := ⟨RX7, TX7, 4, tyX7, rfl, by decide, rfl, by decide, inGX7, tyX7_ok, nmX7, rfl, rfl, rfl, Or.inr ⟨"FoldWalks", gnw_1 41 rfl rfl⟩⟩
theorem fX5_32 : gFl RX5 32 7 0 0 (.array .int) true := ⟨RX7, TX7, 4, tyX7, rfl, by decide, rfl, by decide, inGX7, tyX7_ok, nmX7, rfl, rfl, rfl, Or.inr ⟨"FoldWalks", gnw_1 35 rfl rfl⟩⟩
theorem lkX5_35 : gLkV RX5 35 MX7_scale 1 7 := ⟨⟨⟨gw_2 236 rfl rfl, gw_1 3 rfl rfl, by decide, by decide, by decide +kernel⟩, Or.inl (gw_2 233 rfl rfl)⟩, gw_2 234 rfl rfl, gw_2 235 rfl rfl, by decide, TX7, 4, rfl⟩
theorem lkX5_39 : gLkS RX5 39 MX11_power 2 := ⟨⟨⟨gw_3 1 rfl rfl, gw_1 1 rfl rfl, by decide, by decide, by decide +kernel⟩, Or.inr ⟨"FoldWalks", gnw_3 2 rfl rfl⟩⟩, gw_3 0 rfl rfl⟩
theorem oiX6_1 : Cond.methodLink RX6 1 objectInit ∈ gw := gw_1 27 rfl rfl
theorem clX6_7 : Cond.classLink RX6 7 RX7 ∈ gw := gw_1 28 rfl rfl
theorem lkX6_9 : gLkI RX6 9 MX7_init 0 := ⟨⟨⟨gw_1 32 rfl rfl, gw_1 3 rfl rfl, by decide, by decide, by decide +kernel⟩, Or.inr ⟨"FoldWalks", gnw_1 30 rfl rfl⟩⟩, gw_1 31 rfl rfl, rfl, rfl⟩
theorem ffX6_10 : gFf RX6 10 6 0 (.object "FoldWalks$Terms") := ⟨TX6, 3, tyX6, rfl, by decide, rfl, by decide, inGX6, tyX6_ok, nmX6, rfl, rfl, rfl, rfl, gw_1 141 rfl rfl⟩
theorem clX6_16 : Cond.classLink RX6 16 RX10 ∈ gw := gw_1 56 rfl rfl
theorem lkX6_18 : gLkI RX6 18 MX10_init 0 := ⟨⟨⟨gw_1 60 rfl rfl, gw_1 4 rfl rfl, by decide, by decide, by decide +kernel⟩, Or.inl (gw_1 58 rfl rfl)⟩, gw_1 59 rfl rfl, rfl, rfl⟩
theorem ffX6_19 : gFf RX6 19 6 1 (.object "FoldWalks$Walks") := ⟨TX6, 3, tyX6, rfl, by decide, rfl, by decide, inGX6, tyX6_ok, nmX6, rfl, rfl, rfl, rfl, gw_1 145 rfl rfl⟩
theorem clX6_23 : Cond.classLink RX6 23 RX4 ∈ gw := gw_1 131 rfl rfl
theorem lkX6_25 : gLkI RX6 25 MX4_init 0 := ⟨⟨⟨gw_1 135 rfl rfl, gw_1 6 rfl rfl, by decide, by decide, by decide +kernel⟩, Or.inr ⟨"FoldWalks", gnw_1 133 rfl rfl⟩⟩, gw_1 134 rfl rfl, rfl, rfl⟩
theorem ffX6_26 : gFf RX6 26 6 2 (.object "FoldWalks$Settings") := ⟨TX6, 3, tyX6, rfl, by decide, rfl, by decide, inGX6, tyX6_ok, nmX6, rfl, rfl, rfl, rfl, gw_1 147 rfl rfl⟩
theorem fX6_10 : gFl RX6 10 6 0 0 (.object "FoldWalks$Terms") true := ⟨RX6, TX6, 3, tyX6, rfl, by decide, rfl, by decide, inGX6, tyX6_ok, nmX6, rfl, rfl, rfl, Or.inl (gw_1 141 rfl rfl)⟩
theorem lkX6_30 : gLkV RX6 30 MX7_copyFrom 1 7 := ⟨⟨⟨gw_2 103 rfl rfl, gw_1 3 rfl rfl, by decide, by decide, by decide +kernel⟩, Or.inl (gw_2 100 rfl rfl)⟩, gw_2 101 rfl rfl, gw_2 102 rfl rfl, by decide, TX7, 4, rfl⟩
theorem fX6_19 : gFl RX6 19 6 1 0 (.object "FoldWalks$Walks") true := ⟨RX6, TX6, 3, tyX6, rfl, by decide, rfl, by decide, inGX6, tyX6_ok, nmX6, rfl, rfl, rfl, Or.inl (gw_1 145 rfl rfl)⟩
theorem lkX6_34 : gLkV RX6 34 MX10_copyFrom 1 10 := ⟨⟨⟨gw_2 107 rfl rfl, gw_1 4 rfl rfl, by decide, by decide, by decide +kernel⟩, Or.inl (gw_2 104 rfl rfl)⟩, gw_2 105 rfl rfl, gw_2 106 rfl rfl, by decide, TX10, 4, rfl⟩
theorem fX6_26 : gFl RX6 26 6 2 0 (.object "FoldWalks$Settings") true := ⟨RX6, TX6, 3, tyX6, rfl, by decide, rfl, by decide, inGX6, tyX6_ok, nmX6, rfl, rfl, rfl, Or.inl (gw_1 147 rfl rfl)⟩
theorem lkX6_37 : gLkV RX6 37 MX4_copyFrom 1 4 := ⟨⟨⟨gw_2 119 rfl rfl, gw_1 6 rfl rfl, by decide, by decide, by decide +kernel⟩, Or.inl (gw_2 116 rfl rfl)⟩, gw_2 117 rfl rfl, gw_2 118 rfl rfl, by decide, TX4, 1, rfl⟩
theorem oiX7_3 : Cond.methodLink RX7 3 objectInit ∈ gw := gw_1 33 rfl rfl
theorem ffX7_9 : gFf RX7 9 7 0 (.array .int) := ⟨TX7, 4, tyX7, rfl, by decide, rfl, by decide, inGX7, tyX7_ok, nmX7, rfl, rfl, rfl, rfl, gw_1 34 rfl rfl⟩
theorem ffX7_15 : gFf RX7 15 7 1 (.array .int) := ⟨TX7, 4, tyX7, rfl, by decide, rfl, by decide, inGX7, tyX7_ok, nmX7, rfl, rfl, rfl, rfl, gw_1 37 rfl rfl⟩
theorem ffX7_18 : gFf RX7 18 7 2 (.array .int) := ⟨TX7, 4, tyX7, rfl, by decide, rfl, by decide, inGX7, tyX7_ok, nmX7, rfl, rfl, rfl, rfl, gw_1 40 rfl rfl⟩
theorem fX7_21 : gFl RX7 21 7 3 1 .int false := ⟨RX7, TX7, 4, tyX7, rfl, by decide, rfl, by decide, inGX7, tyX7_ok, nmX7, rfl, rfl, rfl, Or.inl (gw_1 43 rfl rfl)⟩
theorem lkX7_25 : gLkV RX7 25 MX7_isFull 0 7 := ⟨⟨⟨gw_2 86 rfl rfl, gw_1 3 rfl rfl, by decide, by decide, by decide +kernel⟩, Or.inl (gw_2 128 rfl rfl)⟩, gw_2 84 rfl rfl, gw_2 85 rfl rfl, by decide, TX7, 4, rfl⟩
theorem fX7_9 : gFl RX7 9 7 0 0 (.array .int) true := ⟨RX7, TX7, 4, tyX7, rfl, by decide, rfl, by decide, inGX7, tyX7_ok, nmX7, rfl, rfl, rfl, Or.inl (gw_1 34 rfl rfl)⟩
theorem fX7_15 : gFl RX7 15 7 1 0 (.array .int) true := ⟨RX7, TX7, 4, tyX7, rfl, by decide, rfl, by decide, inGX7, tyX7_ok, nmX7, rfl, rfl, rfl, Or.inl (gw_1 37 rfl rfl)⟩
theorem fX7_18 : gFl RX7 18 7 2 0 (.array .int) true := ⟨RX7, TX7, 4, tyX7, rfl, by decide, rfl, by decide, inGX7, tyX7_ok, nmX7, rfl, rfl, rfl, Or.inl (gw_1 40 rfl rfl)⟩
theorem lkX7_29 : gLkV RX7 29 MX7_has 1 7 := ⟨⟨⟨gw_2 179 rfl rfl, gw_1 3 rfl rfl, by decide, by decide, by decide +kernel⟩, Or.inl (gw_2 237 rfl rfl)⟩, gw_2 177 rfl rfl, gw_2 178 rfl rfl, by decide, TX7, 4, rfl⟩
theorem kcX7_41 : Cond.constantLong RX7 41 (256) ∈ gw := gw_2 238 rfl rfl
theorem lkX7_33 : gLkS RX7 33 MX11_power 2 := ⟨⟨⟨gw_3 1 rfl rfl, gw_1 1 rfl rfl, by decide, by decide, by decide +kernel⟩, Or.inr ⟨"FoldWalks", gnw_2 239 rfl rfl⟩⟩, gw_3 0 rfl rfl⟩
theorem oiX8_3 : Cond.methodLink RX8 3 objectInit ∈ gw := gw_2 9 rfl rfl
theorem ffX8_9 : gFf RX8 9 8 0 (.array .int) := ⟨TX8, 2, tyX8, rfl, by decide, rfl, by decide, inGX8, tyX8_ok, nmX8, rfl, rfl, rfl, rfl, gw_2 10 rfl rfl⟩
theorem fX8_15 : gFl RX8 15 8 1 1 .int false := ⟨RX8, TX8, 2, tyX8, rfl, by decide, rfl, by decide, inGX8, tyX8_ok, nmX8, rfl, rfl, rfl, Or.inl (gw_2 12 rfl rfl)⟩
theorem lkX8_19 : gLkV RX8 19 MX8_isFull 0 8 := ⟨⟨⟨gw_3 36 rfl rfl, gw_1 11 rfl rfl, by decide, by decide, by decide +kernel⟩, Or.inl (gw_3 41 rfl rfl)⟩, gw_3 34 rfl rfl, gw_3 35 rfl rfl, by decide, TX8, 2, rfl⟩
theorem fX8_9 : gFl RX8 9 8 0 0 (.array .int) true := ⟨RX8, TX8, 2, tyX8, rfl, by decide, rfl, by decide, inGX8, tyX8_ok, nmX8, rfl, rfl, rfl, Or.inl (gw_2 10 rfl rfl)⟩
theorem oiX9_3 : Cond.methodLink RX9 3 objectInit ∈ gw := gw_1 68 rfl rfl
theorem ffX9_9 : gFf RX9 9 9 0 (.array .int) := ⟨TX9, 10, tyX9, rfl, by decide, rfl, by decide, inGX9, tyX9_ok, nmX9, rfl, rfl, rfl, rfl, gw_1 69 rfl rfl⟩
theorem ffX9_15 : gFf RX9 15 9 1 (.array .int) := ⟨TX9, 10, tyX9, rfl, by decide, rfl, by decide, inGX9, tyX9_ok, nmX9, rfl, rfl, rfl, rfl, gw_1 72 rfl rfl⟩
theorem ffX9_18 : gFf RX9 18 9 2 (.array .int) := ⟨TX9, 10, tyX9, rfl, by decide, rfl, by decide, inGX9, tyX9_ok, nmX9, rfl, rfl, rfl, rfl, gw_1 75 rfl rfl⟩
theorem ffX9_21 : gFf RX9 21 9 3 (.array .int) := ⟨TX9, 10, tyX9, rfl, by decide, rfl, by decide, inGX9, tyX9_ok, nmX9, rfl, rfl, rfl, rfl, gw_1 77 rfl rfl⟩
theorem fX9_24 : gFl RX9 24 9 4 1 .int false := ⟨RX9, TX9, 10, tyX9, rfl, by decide, rfl, by decide, inGX9, tyX9_ok, nmX9, rfl, rfl, rfl, Or.inl (gw_1 79 rfl rfl)⟩
theorem fX9_28 : gFl RX9 28 9 5 1 .int false := ⟨RX9, TX9, 10, tyX9, rfl, by decide, rfl, by decide, inGX9, tyX9_ok, nmX9, rfl, rfl, rfl, Or.inl (gw_1 82 rfl rfl)⟩
theorem fX9_31 : gFl RX9 31 9 6 1 .int false := ⟨RX9, TX9, 10, tyX9, rfl, by decide, rfl, by decide, inGX9, tyX9_ok, nmX9, rfl, rfl, rfl, Or.inl (gw_1 85 rfl rfl)⟩
theorem fX9_34 : gFl RX9 34 9 7 1 .boolean false := ⟨RX9, TX9, 10, tyX9, rfl, by decide, rfl, by decide, inGX9, tyX9_ok, nmX9, rfl, rfl, rfl, Or.inl (gw_1 88 rfl rfl)⟩
theorem fX9_38 : gFl RX9 38 9 8 1 .int false := ⟨RX9, TX9, 10, tyX9, rfl, by decide, rfl, by decide, inGX9, tyX9_ok, nmX9, rfl, rfl, rfl, Or.inl (gw_1 90 rfl rfl)⟩
theorem fX9_41 : gFl RX9 41 9 9 1 .int false := ⟨RX9, TX9, 10, tyX9, rfl, by decide, rfl, by decide, inGX9, tyX9_ok, nmX9, rfl, rfl, rfl, Or.inl (gw_1 93 rfl rfl)⟩
theorem fX9_9 : gFl RX9 9 9 0 0 (.array .int) true := ⟨RX9, TX9, 10, tyX9, rfl, by decide, rfl, by decide, inGX9, tyX9_ok, nmX9, rfl, rfl, rfl, Or.inl (gw_1 69 rfl rfl)⟩
theorem fX9_44 : gFl RX9 44 0 1 1 .int false := ⟨RX0, TX0, 4, tyX0, rfl, by decide, rfl, by decide, inGX0, tyX0_ok, nmX0, rfl, rfl, rfl, Or.inr ⟨"FoldWalks", gnw_1 214 rfl rfl⟩⟩
theorem fX9_15 : gFl RX9 15 9 1 0 (.array .int) true := ⟨RX9, TX9, 10, tyX9, rfl, by decide, rfl, by decide, inGX9, tyX9_ok, nmX9, rfl, rfl, rfl, Or.inl (gw_1 72 rfl rfl)⟩
theorem fX9_49 : gFl RX9 49 0 2 1 .int false := ⟨RX0, TX0, 4, tyX0, rfl, by decide, rfl, by decide, inGX0, tyX0_ok, nmX0, rfl, rfl, rfl, Or.inr ⟨"FoldWalks", gnw_1 218 rfl rfl⟩⟩
theorem fX9_18 : gFl RX9 18 9 2 0 (.array .int) true := ⟨RX9, TX9, 10, tyX9, rfl, by decide, rfl, by decide, inGX9, tyX9_ok, nmX9, rfl, rfl, rfl, Or.inl (gw_1 75 rfl rfl)⟩
theorem fX9_52 : gFl RX9 52 0 3 1 .int false := ⟨RX0, TX0, 4, tyX0, rfl, by decide, rfl, by decide, inGX0, tyX0_ok, nmX0, rfl, rfl, rfl, Or.inr ⟨"FoldWalks", gnw_1 222 rfl rfl⟩⟩
theorem fX9_21 : gFl RX9 21 9 3 0 (.array .int) true := ⟨RX9, TX9, 10, tyX9, rfl, by decide, rfl, by decide, inGX9, tyX9_ok, nmX9, rfl, rfl, rfl, Or.inl (gw_1 77 rfl rfl)⟩
theorem lkX9_54 : gLkV RX9 54 MX9_has 1 9 := ⟨⟨⟨gw_2 207 rfl rfl, gw_1 5 rfl rfl, by decide, by decide, by decide +kernel⟩, Or.inl (gw_3 19 rfl rfl)⟩, gw_2 205 rfl rfl, gw_2 206 rfl rfl, by decide, TX9, 10, rfl⟩
theorem lkX9_69 : gLkV RX9 69 MX9_squaresTo 3 9 := ⟨⟨⟨gw_3 18 rfl rfl, gw_1 5 rfl rfl, by decide, by decide, by decide +kernel⟩, Or.inl (gw_3 15 rfl rfl)⟩, gw_3 17 rfl rfl, gw_in 1 rfl rfl, by decide, TX9, 10, rfl⟩
theorem lkX9_73 : gLkV RX9 73 MX9_start 4 9 := ⟨⟨⟨gw_2 115 rfl rfl, gw_1 5 rfl rfl, by decide, by decide, by decide +kernel⟩, Or.inl (gw_2 112 rfl rfl)⟩, gw_2 113 rfl rfl, gw_2 114 rfl rfl, by decide, TX9, 10, rfl⟩
theorem oiX10_3 : Cond.methodLink RX10 3 objectInit ∈ gw := gw_1 61 rfl rfl
theorem clX10_9 : Cond.classLink RX10 9 RX9 ∈ gw := gw_1 62 rfl rfl
theorem ffX10_11 : gFf RX10 11 10 0 (.array (.object "FoldWalks$Walk")) := ⟨TX10, 4, tyX10, rfl, by decide, rfl, by decide, inGX10, tyX10_ok, nmX10, rfl, rfl, rfl, rfl, gw_1 117 rfl rfl⟩
theorem ffX10_17 : gFf RX10 17 10 1 (.array .boolean) := ⟨TX10, 4, tyX10, rfl, by decide, rfl, by decide, inGX10, tyX10_ok, nmX10, rfl, rfl, rfl, rfl, gw_1 118 rfl rfl⟩
theorem ffX10_21 : gFf RX10 21 10 2 (.array .int) := ⟨TX10, 4, tyX10, rfl, by decide, rfl, by decide, inGX10, tyX10_ok, nmX10, rfl, rfl, rfl, rfl, gw_1 119 rfl rfl⟩
theorem fX10_11 : gFl RX10 11 10 0 0 (.array (.object "FoldWalks$Walk")) true := ⟨RX10, TX10, 4, tyX10, rfl, by decide, rfl, by decide, inGX10, tyX10_ok, nmX10, rfl, rfl, rfl, Or.inl (gw_1 117 rfl rfl)⟩
theorem lkX10_25 : gLkI RX10 25 MX9_init 0 := ⟨⟨⟨gw_1 67 rfl rfl, gw_1 5 rfl rfl, by decide, by decide, by decide +kernel⟩, Or.inr ⟨"FoldWalks", gnw_1 65 rfl rfl⟩⟩, gw_1 66 rfl rfl, rfl, rfl⟩
theorem fX10_26 : gFl RX10 26 10 3 1 .int false := ⟨RX10, TX10, 4, tyX10, rfl, by decide, rfl, by decide, inGX10, tyX10_ok, nmX10, rfl, rfl, rfl, Or.inl (gw_1 120 rfl rfl)⟩
theorem lkX10_30 : gLkV RX10 30 MX10_isFull 0 10 := ⟨⟨⟨gw_3 106 rfl rfl, gw_1 4 rfl rfl, by decide, by decide, by decide +kernel⟩, Or.inl (gw_3 111 rfl rfl)⟩, gw_3 104 rfl rfl, gw_3 105 rfl rfl, by decide, TX10, 4, rfl⟩
theorem fX10_34 : gFl RX10 34 9 8 1 .int false := ⟨RX9, TX9, 10, tyX9, rfl, by decide, rfl, by decide, inGX9, tyX9_ok, nmX9, rfl, rfl, rfl, Or.inr ⟨"FoldWalks", gnw_1 91 rfl rfl⟩⟩
theorem fX10_17 : gFl RX10 17 10 1 0 (.array .boolean) true := ⟨RX10, TX10, 4, tyX10, rfl, by decide, rfl, by decide, inGX10, tyX10_ok, nmX10, rfl, rfl, rfl, Or.inl (gw_1 118 rfl rfl)⟩
theorem lkX10_37 : gLkV RX10 37 MX10_markFamily 1 10 := ⟨⟨⟨gw_2 198 rfl rfl, gw_1 4 rfl rfl, by decide, by decide, by decide +kernel⟩, Or.inl (gw_3 188 rfl rfl)⟩, gw_2 196 rfl rfl, gw_2 197 rfl rfl, by decide, TX10, 4, rfl⟩
theorem fX10_21 : gFl RX10 21 10 2 0 (.array .int) true := ⟨RX10, TX10, 4, tyX10, rfl, by decide, rfl, by decide, inGX10, tyX10_ok, nmX10, rfl, rfl, rfl, Or.inl (gw_1 119 rfl rfl)⟩
theorem fX10_41 : gFl RX10 41 9 4 1 .int false := ⟨RX9, TX9, 10, tyX9, rfl, by decide, rfl, by decide, inGX9, tyX9_ok, nmX9, rfl, rfl, rfl, Or.inr ⟨"FoldWalks", gnw_1 80 rfl rfl⟩⟩
theorem lkX10_42 : gLkV RX10 42 MX9_placesOfKind 1 9 := ⟨⟨⟨gw_2 144 rfl rfl, gw_1 5 rfl rfl, by decide, by decide, by decide +kernel⟩, Or.inl (gw_2 141 rfl rfl)⟩, gw_2 142 rfl rfl, gw_2 143 rfl rfl, by decide, TX9, 10, rfl⟩
theorem lkX10_45 : gLkV RX10 45 MX9_copyFrom 1 9 := ⟨⟨⟨gw_2 111 rfl rfl, gw_1 5 rfl rfl, by decide, by decide, by decide +kernel⟩, Or.inl (gw_2 108 rfl rfl)⟩, gw_2 109 rfl rfl, gw_2 110 rfl rfl, by decide, TX9, 10, rfl⟩
theorem oiX11_1 : Cond.methodLink RX11 1 objectInit ∈ gw := gw_1 19 rfl rfl
theorem clX11_7 : Cond.classLink RX11 7 RX6 ∈ gw := gw_1 22 rfl rfl
theorem lkX11_9 : gLkI RX11 9 MX6_init 0 := ⟨⟨⟨gw_1 26 rfl rfl, gw_1 2 rfl rfl, by decide, by decide, by decide +kernel⟩, Or.inr ⟨"FoldWalks", gnw_1 24 rfl rfl⟩⟩, gw_1 25 rfl rfl, rfl, rfl⟩
theorem ffX11_10 : gFf RX11 10 11 0 (.object "FoldWalks$State") := ⟨TX11, 5, tyX11, rfl, by decide, rfl, by decide, inGX11, tyX11_ok, nmX11, rfl, rfl, rfl, rfl, gw_2 56 rfl rfl⟩
theorem clX11_16 : Cond.classLink RX11 16 RX1 ∈ gw := gw_1 158 rfl rfl
theorem lkX11_18 : gLkI RX11 18 MX1_init 0 := ⟨⟨⟨gw_1 162 rfl rfl, gw_1 7 rfl rfl, by decide, by decide, by decide +kernel⟩, Or.inl (gw_1 160 rfl rfl)⟩, gw_1 161 rfl rfl, rfl, rfl⟩
theorem ffX11_19 : gFf RX11 19 11 1 (.object "FoldWalks$History") := ⟨TX11, 5, tyX11, rfl, by decide, rfl, by decide, inGX11, tyX11_ok, nmX11, rfl, rfl, rfl, rfl, gw_2 57 rfl rfl⟩
theorem clX11_23 : Cond.classLink RX11 23 RX2 ∈ gw := gw_1 178 rfl rfl
theorem lkX11_25 : gLkI RX11 25 MX2_init 0 := ⟨⟨⟨gw_1 182 rfl rfl, gw_1 8 rfl rfl, by decide, by decide, by decide +kernel⟩, Or.inr ⟨"FoldWalks", gnw_1 180 rfl rfl⟩⟩, gw_1 181 rfl rfl, rfl, rfl⟩
theorem ffX11_26 : gFf RX11 26 11 2 (.object "FoldWalks$Mover") := ⟨TX11, 5, tyX11, rfl, by decide, rfl, by decide, inGX11, tyX11_ok, nmX11, rfl, rfl, rfl, rfl, gw_2 58 rfl rfl⟩
theorem clX11_30 : Cond.classLink RX11 30 RX8 ∈ gw := gw_2 4 rfl rfl
theorem lkX11_32 : gLkI RX11 32 MX8_init 0 := ⟨⟨⟨gw_2 8 rfl rfl, gw_1 11 rfl rfl, by decide, by decide, by decide +kernel⟩, Or.inr ⟨"FoldWalks", gnw_2 6 rfl rfl⟩⟩, gw_2 7 rfl rfl, rfl, rfl⟩
theorem ffX11_33 : gFf RX11 33 11 3 (.object "FoldWalks$Text") := ⟨TX11, 5, tyX11, rfl, by decide, rfl, by decide, inGX11, tyX11_ok, nmX11, rfl, rfl, rfl, rfl, gw_2 59 rfl rfl⟩
theorem clX11_37 : Cond.classLink RX11 37 RX3 ∈ gw := gw_2 20 rfl rfl
theorem lkX11_39 : gLkI RX11 39 MX3_init 0 := ⟨⟨⟨gw_2 24 rfl rfl, gw_1 12 rfl rfl, by decide, by decide, by decide +kernel⟩, Or.inr ⟨"FoldWalks", gnw_2 22 rfl rfl⟩⟩, gw_2 23 rfl rfl, rfl, rfl⟩
theorem ffX11_40 : gFf RX11 40 11 4 (.object "FoldWalks$Reader") := ⟨TX11, 5, tyX11, rfl, by decide, rfl, by decide, inGX11, tyX11_ok, nmX11, rfl, rfl, rfl, rfl, gw_2 60 rfl rfl⟩
theorem kcX11_44 : Cond.constantLong RX11 44 (-5) ∈ gw := gw_2 76 rfl rfl
theorem kcX11_46 : Cond.constantLong RX11 46 (5) ∈ gw := gw_2 77 rfl rfl
theorem lkX11_48 : gLkS RX11 48 MX11_isWithin 3 := ⟨⟨⟨gw_2 80 rfl rfl, gw_1 1 rfl rfl, by decide, by decide, by decide +kernel⟩, Or.inl (gw_2 78 rfl rfl)⟩, gw_2 79 rfl rfl⟩
theorem kcX11_52 : Cond.constant RX11 52 (-1000001) ∈ gw := gw_2 81 rfl rfl
theorem kcX11_53 : Cond.constantLong RX11 53 (3) ∈ gw := gw_2 82 rfl rfl
theorem fX11_10 : gFl RX11 10 11 0 0 (.object "FoldWalks$State") true := ⟨RX11, TX11, 5, tyX11, rfl, by decide, rfl, by decide, inGX11, tyX11_ok, nmX11, rfl, rfl, rfl, Or.inl (gw_2 56 rfl rfl)⟩
theorem fX11_55 : gFl RX11 55 6 0 0 (.object "FoldWalks$Terms") true := ⟨RX6, TX6, 3, tyX6, rfl, by decide, rfl, by decide, inGX6, tyX6_ok, nmX6, rfl, rfl, rfl, Or.inr ⟨"FoldWalks", gnw_1 144 rfl rfl⟩⟩
theorem lkX11_59 : gLkV RX11 59 MX7_isFull 0 7 := ⟨⟨⟨gw_2 86 rfl rfl, gw_1 3 rfl rfl, by decide, by decide, by decide +kernel⟩, Or.inl (gw_2 83 rfl rfl)⟩, gw_2 84 rfl rfl, gw_2 85 rfl rfl, by decide, TX7, 4, rfl⟩
theorem kcX11_65 : Cond.constant RX11 65 (-1000003) ∈ gw := gw_2 87 rfl rfl
theorem fX11_19 : gFl RX11 19 11 1 0 (.object "FoldWalks$History") true := ⟨RX11, TX11, 5, tyX11, rfl, by decide, rfl, by decide, inGX11, tyX11_ok, nmX11, rfl, rfl, rfl, Or.inl (gw_2 57 rfl rfl)⟩
theorem lkX11_66 : gLkV RX11 66 MX1_keep 1 1 := ⟨⟨⟨gw_2 91 rfl rfl, gw_1 7 rfl rfl, by decide, by decide, by decide +kernel⟩, Or.inl (gw_2 88 rfl rfl)⟩, gw_2 89 rfl rfl, gw_2 90 rfl rfl, by decide, TX1, 3, rfl⟩
theorem fX11_70 : gFl RX11 70 6 1 0 (.object "FoldWalks$Walks") true := ⟨RX6, TX6, 3, tyX6, rfl, by decide, rfl, by decide, inGX6, tyX6_ok, nmX6, rfl, rfl, rfl, Or.inr ⟨"FoldWalks", gnw_1 146 rfl rfl⟩⟩
theorem lkX11_74 : gLkV RX11 74 MX10_clear 0 10 := ⟨⟨⟨gw_2 123 rfl rfl, gw_1 4 rfl rfl, by decide, by decide, by decide +kernel⟩, Or.inl (gw_2 120 rfl rfl)⟩, gw_2 121 rfl rfl, gw_2 122 rfl rfl, by decide, TX10, 4, rfl⟩
theorem lkX11_79 : gLkV RX11 79 MX7_add 3 7 := ⟨⟨⟨gw_2 127 rfl rfl, gw_1 3 rfl rfl, by decide, by decide, by decide +kernel⟩, Or.inl (gw_2 124 rfl rfl)⟩, gw_2 125 rfl rfl, gw_2 126 rfl rfl, by decide, TX7, 4, rfl⟩
theorem fX11_83 : gFl RX11 83 7 3 1 .int false := ⟨RX7, TX7, 4, tyX7, rfl, by decide, rfl, by decide, inGX7, tyX7_ok, nmX7, rfl, rfl, rfl, Or.inr ⟨"FoldWalks", gnw_1 45 rfl rfl⟩⟩
theorem lkX11_87 : gLkV RX11 87 MX7_has 1 7 := ⟨⟨⟨gw_2 179 rfl rfl, gw_1 3 rfl rfl, by decide, by decide, by decide +kernel⟩, Or.inl (gw_2 176 rfl rfl)⟩, gw_2 177 rfl rfl, gw_2 178 rfl rfl, by decide, TX7, 4, rfl⟩
theorem kcX11_91 : Cond.constant RX11 91 (-1000002) ∈ gw := gw_2 153 rfl rfl
theorem lkX11_92 : gLkV RX11 92 MX7_remove 1 7 := ⟨⟨⟨gw_3 213 rfl rfl, gw_1 3 rfl rfl, by decide, by decide, by decide +kernel⟩, Or.inl (gw_3 210 rfl rfl)⟩, gw_3 211 rfl rfl, gw_3 212 rfl rfl, by decide, TX7, 4, rfl⟩
theorem kcX11_96 : Cond.constantLong RX11 96 (2) ∈ gw := gw_2 175 rfl rfl
theorem kcX11_98 : Cond.constant RX11 98 (-1000004) ∈ gw := gw_2 180 rfl rfl
theorem fX11_99 : gFl RX11 99 7 0 0 (.array .int) true := ⟨RX7, TX7, 4, tyX7, rfl, by decide, rfl, by decide, inGX7, tyX7_ok, nmX7, rfl, rfl, rfl, Or.inr ⟨"FoldWalks", gnw_1 36 rfl rfl⟩⟩
theorem fX11_103 : gFl RX11 103 7 1 0 (.array .int) true := ⟨RX7, TX7, 4, tyX7, rfl, by decide, rfl, by decide, inGX7, tyX7_ok, nmX7, rfl, rfl, rfl, Or.inr ⟨"FoldWalks", gnw_1 39 rfl rfl⟩⟩
theorem fX11_106 : gFl RX11 106 7 2 0 (.array .int) true := ⟨RX7, TX7, 4, tyX7, rfl, by decide, rfl, by decide, inGX7, tyX7_ok, nmX7, rfl, rfl, rfl, Or.inr ⟨"FoldWalks", gnw_1 42 rfl rfl⟩⟩
theorem lkX11_109 : gLkS RX11 109 MX11_isPlace 2 := ⟨⟨⟨gw_2 220 rfl rfl, gw_1 1 rfl rfl, by decide, by decide, by decide +kernel⟩, Or.inl (gw_2 218 rfl rfl)⟩, gw_2 219 rfl rfl⟩
theorem fX11_26 : gFl RX11 26 11 2 0 (.object "FoldWalks$Mover") true := ⟨RX11, TX11, 5, tyX11, rfl, by decide, rfl, by decide, inGX11, tyX11_ok, nmX11, rfl, rfl, rfl, Or.inl (gw_2 58 rfl rfl)⟩
theorem fX11_137 : gFl RX11 137 2 0 0 (.object "FoldWalks$Corrector") true := ⟨RX2, TX2, 2, tyX2, rfl, by decide, rfl, by decide, inGX2, tyX2_ok, nmX2, rfl, rfl, rfl, Or.inr ⟨"FoldWalks", gnw_1 237 rfl rfl⟩⟩
theorem lkX11_141 : gLkV RX11 141 MX0_correct 3 0 := ⟨⟨⟨gw_2 226 rfl rfl, gw_1 9 rfl rfl, by decide, by decide, by decide +kernel⟩, Or.inl (gw_2 223 rfl rfl)⟩, gw_2 224 rfl rfl, gw_2 225 rfl rfl, by decide, TX0, 4, rfl⟩
theorem fX11_147 : gFl RX11 147 0 1 1 .int false := ⟨RX0, TX0, 4, tyX0, rfl, by decide, rfl, by decide, inGX0, tyX0_ok, nmX0, rfl, rfl, rfl, Or.inr ⟨"FoldWalks", gnw_1 216 rfl rfl⟩⟩
theorem fX11_150 : gFl RX11 150 0 2 1 .int false := ⟨RX0, TX0, 4, tyX0, rfl, by decide, rfl, by decide, inGX0, tyX0_ok, nmX0, rfl, rfl, rfl, Or.inr ⟨"FoldWalks", gnw_1 220 rfl rfl⟩⟩
theorem fX11_153 : gFl RX11 153 0 3 1 .int false := ⟨RX0, TX0, 4, tyX0, rfl, by decide, rfl, by decide, inGX0, tyX0_ok, nmX0, rfl, rfl, rfl, Or.inr ⟨"FoldWalks", gnw_1 224 rfl rfl⟩⟩
theorem lkX11_156 : gLkS RX11 156 MX11_isSign 1 := ⟨⟨⟨gw_3 98 rfl rfl, gw_1 1 rfl rfl, by decide, by decide, by decide +kernel⟩, Or.inl (gw_3 96 rfl rfl)⟩, gw_3 97 rfl rfl⟩
theorem lkX11_159 : gLkV RX11 159 MX11_startWalk 3 11 := ⟨⟨⟨gw_3 102 rfl rfl, gw_1 1 rfl rfl, by decide, by decide, by decide +kernel⟩, Or.inl (gw_3 99 rfl rfl)⟩, gw_3 101 rfl rfl, gw_in 8 rfl rfl, by decide, TX11, 5, rfl⟩
theorem lkX11_163 : gLkV RX11 163 MX10_at 1 10 := ⟨⟨⟨gw_2 188 rfl rfl, gw_1 4 rfl rfl, by decide, by decide, by decide +kernel⟩, Or.inl (gw_2 185 rfl rfl)⟩, gw_2 186 rfl rfl, gw_2 187 rfl rfl, by decide, TX10, 4, rfl⟩
theorem lkX11_167 : gLkV RX11 167 MX9_has 1 9 := ⟨⟨⟨gw_2 207 rfl rfl, gw_1 5 rfl rfl, by decide, by decide, by decide +kernel⟩, Or.inl (gw_2 204 rfl rfl)⟩, gw_2 205 rfl rfl, gw_2 206 rfl rfl, by decide, TX9, 10, rfl⟩
theorem fX11_170 : gFl RX11 170 9 3 0 (.array .int) true := ⟨RX9, TX9, 10, tyX9, rfl, by decide, rfl, by decide, inGX9, tyX9_ok, nmX9, rfl, rfl, rfl, Or.inr ⟨"FoldWalks", gnw_1 78 rfl rfl⟩⟩
theorem lkX11_173 : gLkV RX11 173 MX2_leavesCrossing 4 2 := ⟨⟨⟨gw_3 166 rfl rfl, gw_1 8 rfl rfl, by decide, by decide, by decide +kernel⟩, Or.inl (gw_3 163 rfl rfl)⟩, gw_3 164 rfl rfl, gw_3 165 rfl rfl, by decide, TX2, 2, rfl⟩
theorem lkX11_177 : gLkV RX11 177 MX2_signBeside 3 2 := ⟨⟨⟨gw_3 179 rfl rfl, gw_1 8 rfl rfl, by decide, by decide, by decide +kernel⟩, Or.inl (gw_3 176 rfl rfl)⟩, gw_3 177 rfl rfl, gw_3 178 rfl rfl, by decide, TX2, 2, rfl⟩
theorem lkX11_181 : gLkV RX11 181 MX10_isFull 0 10 := ⟨⟨⟨gw_3 106 rfl rfl, gw_1 4 rfl rfl, by decide, by decide, by decide +kernel⟩, Or.inl (gw_3 103 rfl rfl)⟩, gw_3 104 rfl rfl, gw_3 105 rfl rfl, by decide, TX10, 4, rfl⟩
theorem fX11_182 : gFl RX11 182 10 3 1 .int false := ⟨RX10, TX10, 4, tyX10, rfl, by decide, rfl, by decide, inGX10, tyX10_ok, nmX10, rfl, rfl, rfl, Or.inr ⟨"FoldWalks", gnw_1 121 rfl rfl⟩⟩
theorem lkX11_183 : gLkV RX11 183 MX10_addOne 0 10 := ⟨⟨⟨gw_3 110 rfl rfl, gw_1 4 rfl rfl, by decide, by decide, by decide +kernel⟩, Or.inl (gw_3 107 rfl rfl)⟩, gw_3 108 rfl rfl, gw_3 109 rfl rfl, by decide, TX10, 4, rfl⟩
theorem fX11_187 : gFl RX11 187 6 2 0 (.object "FoldWalks$Settings") true := ⟨RX6, TX6, 3, tyX6, rfl, by decide, rfl, by decide, inGX6, tyX6_ok, nmX6, rfl, rfl, rfl, Or.inr ⟨"FoldWalks", gnw_1 150 rfl rfl⟩⟩
theorem lkX11_193 : gLkV RX11 193 MX4_at 1 4 := ⟨⟨⟨gw_2 148 rfl rfl, gw_1 6 rfl rfl, by decide, by decide, by decide +kernel⟩, Or.inl (gw_2 145 rfl rfl)⟩, gw_2 146 rfl rfl, gw_2 147 rfl rfl, by decide, TX4, 1, rfl⟩
theorem lkX11_195 : gLkV RX11 195 MX9_start 4 9 := ⟨⟨⟨gw_2 115 rfl rfl, gw_1 5 rfl rfl, by decide, by decide, by decide +kernel⟩, Or.inl (gw_3 112 rfl rfl)⟩, gw_2 113 rfl rfl, gw_2 114 rfl rfl, by decide, TX9, 10, rfl⟩
theorem lkX11_199 : gLkV RX11 199 MX9_addPlace 2 9 := ⟨⟨⟨gw_3 116 rfl rfl, gw_1 5 rfl rfl, by decide, by decide, by decide +kernel⟩, Or.inl (gw_3 113 rfl rfl)⟩, gw_3 114 rfl rfl, gw_3 115 rfl rfl, by decide, TX9, 10, rfl⟩
theorem kcX11_203 : Cond.constantLong RX11 203 (40) ∈ gw := gw_3 123 rfl rfl
theorem lkX11_205 : gLkV RX11 205 MX9_condition 0 9 := ⟨⟨⟨gw_2 193 rfl rfl, gw_1 5 rfl rfl, by decide, by decide, by decide +kernel⟩, Or.inl (gw_2 190 rfl rfl)⟩, gw_2 191 rfl rfl, gw_2 192 rfl rfl, by decide, TX9, 10, rfl⟩
theorem lkX11_209 : gLkV RX11 209 MX2_advance 2 2 := ⟨⟨⟨gw_3 127 rfl rfl, gw_1 8 rfl rfl, by decide, by decide, by decide +kernel⟩, Or.inl (gw_3 124 rfl rfl)⟩, gw_3 125 rfl rfl, gw_3 126 rfl rfl, by decide, TX2, 2, rfl⟩
theorem lkX11_213 : gLkV RX11 213 MX10_removeFamily 1 10 := ⟨⟨⟨gw_3 187 rfl rfl, gw_1 4 rfl rfl, by decide, by decide, by decide +kernel⟩, Or.inl (gw_3 184 rfl rfl)⟩, gw_3 185 rfl rfl, gw_3 186 rfl rfl, by decide, TX10, 4, rfl⟩
theorem lkX11_217 : gLkS RX11 217 MX4_allows 2 := ⟨⟨⟨gw_3 195 rfl rfl, gw_1 6 rfl rfl, by decide, by decide, by decide +kernel⟩, Or.inl (gw_3 193 rfl rfl)⟩, gw_3 194 rfl rfl⟩
theorem lkX11_221 : gLkV RX11 221 MX4_replace 2 4 := ⟨⟨⟨gw_3 204 rfl rfl, gw_1 6 rfl rfl, by decide, by decide, by decide +kernel⟩, Or.inl (gw_3 201 rfl rfl)⟩, gw_3 202 rfl rfl, gw_3 203 rfl rfl, by decide, TX4, 1, rfl⟩
theorem kcX11_225 : Cond.constantLong RX11 225 (8) ∈ gw := gw_2 189 rfl rfl
theorem fX11_227 : gFl RX11 227 9 4 1 .int false := ⟨RX9, TX9, 10, tyX9, rfl, by decide, rfl, by decide, inGX9, tyX9_ok, nmX9, rfl, rfl, rfl, Or.inr ⟨"FoldWalks", gnw_1 81 rfl rfl⟩⟩
theorem fX11_228 : gFl RX11 228 9 5 1 .int false := ⟨RX9, TX9, 10, tyX9, rfl, by decide, rfl, by decide, inGX9, tyX9_ok, nmX9, rfl, rfl, rfl, Or.inr ⟨"FoldWalks", gnw_1 84 rfl rfl⟩⟩
theorem fX11_231 : gFl RX11 231 9 6 1 .int false := ⟨RX9, TX9, 10, tyX9, rfl, by decide, rfl, by decide, inGX9, tyX9_ok, nmX9, rfl, rfl, rfl, Or.inr ⟨"FoldWalks", gnw_1 87 rfl rfl⟩⟩
theorem lkX11_234 : gLkV RX11 234 MX9_placesOfKind 1 9 := ⟨⟨⟨gw_2 144 rfl rfl, gw_1 5 rfl rfl, by decide, by decide, by decide +kernel⟩, Or.inl (gw_2 194 rfl rfl)⟩, gw_2 142 rfl rfl, gw_2 143 rfl rfl, by decide, TX9, 10, rfl⟩
theorem fX11_237 : gFl RX11 237 9 8 1 .int false := ⟨RX9, TX9, 10, tyX9, rfl, by decide, rfl, by decide, inGX9, tyX9_ok, nmX9, rfl, rfl, rfl, Or.inr ⟨"FoldWalks", gnw_1 92 rfl rfl⟩⟩
theorem fX11_240 : gFl RX11 240 9 9 1 .int false := ⟨RX9, TX9, 10, tyX9, rfl, by decide, rfl, by decide, inGX9, tyX9_ok, nmX9, rfl, rfl, rfl, Or.inr ⟨"FoldWalks", gnw_1 94 rfl rfl⟩⟩
theorem lkX11_243 : gLkV RX11 243 MX10_markFamily 1 10 := ⟨⟨⟨gw_2 198 rfl rfl, gw_1 4 rfl rfl, by decide, by decide, by decide +kernel⟩, Or.inl (gw_2 195 rfl rfl)⟩, gw_2 196 rfl rfl, gw_2 197 rfl rfl, by decide, TX10, 4, rfl⟩
theorem fX11_246 : gFl RX11 246 9 0 0 (.array .int) true := ⟨RX9, TX9, 10, tyX9, rfl, by decide, rfl, by decide, inGX9, tyX9_ok, nmX9, rfl, rfl, rfl, Or.inr ⟨"FoldWalks", gnw_1 71 rfl rfl⟩⟩
theorem fX11_249 : gFl RX11 249 9 1 0 (.array .int) true := ⟨RX9, TX9, 10, tyX9, rfl, by decide, rfl, by decide, inGX9, tyX9_ok, nmX9, rfl, rfl, rfl, Or.inr ⟨"FoldWalks", gnw_1 74 rfl rfl⟩⟩
theorem fX11_252 : gFl RX11 252 9 2 0 (.array .int) true := ⟨RX9, TX9, 10, tyX9, rfl, by decide, rfl, by decide, inGX9, tyX9_ok, nmX9, rfl, rfl, rfl, Or.inr ⟨"FoldWalks", gnw_1 76 rfl rfl⟩⟩
theorem lkX11_254 : gLkV RX11 254 MX10_places 0 10 := ⟨⟨⟨gw_2 136 rfl rfl, gw_1 4 rfl rfl, by decide, by decide, by decide +kernel⟩, Or.inl (gw_2 133 rfl rfl)⟩, gw_2 134 rfl rfl, gw_2 135 rfl rfl, by decide, TX10, 4, rfl⟩
theorem lkX11_257 : gLkV RX11 257 MX10_placesOfKind 1 10 := ⟨⟨⟨gw_2 140 rfl rfl, gw_1 4 rfl rfl, by decide, by decide, by decide +kernel⟩, Or.inl (gw_2 137 rfl rfl)⟩, gw_2 138 rfl rfl, gw_2 139 rfl rfl, by decide, TX10, 4, rfl⟩
theorem fX11_258 : gFl RX11 258 1 2 1 .int false := ⟨RX1, TX1, 3, tyX1, rfl, by decide, rfl, by decide, inGX1, tyX1_ok, nmX1, rfl, rfl, rfl, Or.inr ⟨"FoldWalks", gnw_1 170 rfl rfl⟩⟩
theorem fX11_33 : gFl RX11 33 11 3 0 (.object "FoldWalks$Text") true := ⟨RX11, TX11, 5, tyX11, rfl, by decide, rfl, by decide, inGX11, tyX11_ok, nmX11, rfl, rfl, rfl, Or.inl (gw_2 59 rfl rfl)⟩
theorem fX11_259 : gFl RX11 259 8 1 1 .int false := ⟨RX8, TX8, 2, tyX8, rfl, by decide, rfl, by decide, inGX8, tyX8_ok, nmX8, rfl, rfl, rfl, Or.inr ⟨"FoldWalks", gnw_2 14 rfl rfl⟩⟩
theorem lkX11_276 : gLkV RX11 276 MX9_nearestTo 2 9 := ⟨⟨⟨gw_3 14 rfl rfl, gw_1 5 rfl rfl, by decide, by decide, by decide +kernel⟩, Or.inl (gw_3 11 rfl rfl)⟩, gw_3 12 rfl rfl, gw_3 13 rfl rfl, by decide, TX9, 10, rfl⟩
theorem lkX11_280 : gLkV RX11 280 MX1_restore 1 1 := ⟨⟨⟨gw_2 157 rfl rfl, gw_1 7 rfl rfl, by decide, by decide, by decide +kernel⟩, Or.inl (gw_2 154 rfl rfl)⟩, gw_2 155 rfl rfl, gw_2 156 rfl rfl, by decide, TX1, 3, rfl⟩
theorem kcX11_283 : Cond.constantLong RX11 283 (32) ∈ gw := gw_3 31 rfl rfl
theorem kcX11_285 : Cond.constantLong RX11 285 (126) ∈ gw := gw_3 32 rfl rfl
theorem lkX11_287 : gLkV RX11 287 MX8_isFull 0 8 := ⟨⟨⟨gw_3 36 rfl rfl, gw_1 11 rfl rfl, by decide, by decide, by decide +kernel⟩, Or.inl (gw_3 33 rfl rfl)⟩, gw_3 34 rfl rfl, gw_3 35 rfl rfl, by decide, TX8, 2, rfl⟩
theorem lkX11_288 : gLkV RX11 288 MX8_append 1 8 := ⟨⟨⟨gw_3 40 rfl rfl, gw_1 11 rfl rfl, by decide, by decide, by decide +kernel⟩, Or.inl (gw_3 37 rfl rfl)⟩, gw_3 38 rfl rfl, gw_3 39 rfl rfl, by decide, TX8, 2, rfl⟩
theorem fX11_40 : gFl RX11 40 11 4 0 (.object "FoldWalks$Reader") true := ⟨RX11, TX11, 5, tyX11, rfl, by decide, rfl, by decide, inGX11, tyX11_ok, nmX11, rfl, rfl, rfl, Or.inl (gw_2 60 rfl rfl)⟩
theorem lkX11_291 : gLkV RX11 291 MX3_scan 1 3 := ⟨⟨⟨gw_3 52 rfl rfl, gw_1 12 rfl rfl, by decide, by decide, by decide +kernel⟩, Or.inl (gw_3 49 rfl rfl)⟩, gw_3 50 rfl rfl, gw_3 51 rfl rfl, by decide, TX3, 8, rfl⟩
theorem fX11_295 : gFl RX11 295 3 2 1 .int false := ⟨RX3, TX3, 8, tyX3, rfl, by decide, rfl, by decide, inGX3, tyX3_ok, nmX3, rfl, rfl, rfl, Or.inr ⟨"FoldWalks", gnw_2 33 rfl rfl⟩⟩
theorem fX11_298 : gFl RX11 298 3 1 1 .int false := ⟨RX3, TX3, 8, tyX3, rfl, by decide, rfl, by decide, inGX3, tyX3_ok, nmX3, rfl, rfl, rfl, Or.inr ⟨"FoldWalks", gnw_2 31 rfl rfl⟩⟩
theorem fX11_301 : gFl RX11 301 3 0 0 (.object "FoldWalks$Terms") true := ⟨RX3, TX3, 8, tyX3, rfl, by decide, rfl, by decide, inGX3, tyX3_ok, nmX3, rfl, rfl, rfl, Or.inr ⟨"FoldWalks", gnw_2 29 rfl rfl⟩⟩
theorem lkX11_302 : gLkV RX11 302 MX7_copyFrom 1 7 := ⟨⟨⟨gw_2 103 rfl rfl, gw_1 3 rfl rfl, by decide, by decide, by decide +kernel⟩, Or.inl (gw_3 87 rfl rfl)⟩, gw_2 101 rfl rfl, gw_2 102 rfl rfl, by decide, TX7, 4, rfl⟩
theorem kcX11_262 : Cond.constantLong RX11 262 (-1024) ∈ gw := gw_2 221 rfl rfl
theorem kcX11_264 : Cond.constantLong RX11 264 (1024) ∈ gw := gw_2 222 rfl rfl
theorem kcX11_306 : Cond.constantLong RX11 306 (1073741824) ∈ gw := gw_3 141 rfl rfl
theorem kcL_7 : Cond.constant RL 7 (-875567765) ∈ gw := gw_2 161 rfl rfl
theorem kcL_8 : Cond.constant RL 8 (2147483647) ∈ gw := gw_2 165 rfl rfl
theorem kcL_9 : Cond.constantLong RL 9 (59) ∈ gw := gw_2 169 rfl rfl
theorem kcL_11 : Cond.constantLong RL 11 (31) ∈ gw := gw_2 170 rfl rfl
theorem lkL_13 : gLkV RL 13 MX11_count 1 11 := ⟨⟨⟨gw_2 132 rfl rfl, gw_1 1 rfl rfl, by decide, by decide, by decide +kernel⟩, Or.inl (gw_2 129 rfl rfl)⟩, gw_2 130 rfl rfl, gw_2 131 rfl rfl, by decide, TX11, 5, rfl⟩
theorem lkL_19 : gLkV RL 19 MX11_termOf 2 11 := ⟨⟨⟨gw_2 174 rfl rfl, gw_1 1 rfl rfl, by decide, by decide, by decide +kernel⟩, Or.inl (gw_2 171 rfl rfl)⟩, gw_2 172 rfl rfl, gw_2 173 rfl rfl, by decide, TX11, 5, rfl⟩
theorem lkL_23 : gLkV RL 23 MX11_walkOf 2 11 := ⟨⟨⟨gw_2 184 rfl rfl, gw_1 1 rfl rfl, by decide, by decide, by decide +kernel⟩, Or.inl (gw_2 181 rfl rfl)⟩, gw_2 182 rfl rfl, gw_2 183 rfl rfl, by decide, TX11, 5, rfl⟩
theorem kcL_26 : Cond.constantLong RL 26 (2100) ∈ gw := gw_2 199 rfl rfl
theorem lkL_28 : gLkV RL 28 MX11_placeOf 3 11 := ⟨⟨⟨gw_2 203 rfl rfl, gw_1 1 rfl rfl, by decide, by decide, by decide +kernel⟩, Or.inl (gw_2 200 rfl rfl)⟩, gw_2 201 rfl rfl, gw_2 202 rfl rfl, by decide, TX11, 5, rfl⟩
theorem kcL_32 : Cond.constantLong RL 32 (9) ∈ gw := gw_2 208 rfl rfl
theorem kcL_34 : Cond.constantLong RL 34 (70) ∈ gw := gw_2 209 rfl rfl
theorem lkL_36 : gLkS RL 36 ML_low 2 := ⟨⟨⟨gw_2 164 rfl rfl, gw_1 0 rfl rfl, by decide, by decide, by decide +kernel⟩, Or.inl (gw_2 162 rfl rfl)⟩, gw_2 163 rfl rfl⟩
theorem kcL_41 : Cond.constant RL 41 (-1000004) ∈ gw := gw_2 213 rfl rfl
theorem lkL_42 : gLkV RL 42 MX11_corrected 3 11 := ⟨⟨⟨gw_2 217 rfl rfl, gw_1 1 rfl rfl, by decide, by decide, by decide +kernel⟩, Or.inl (gw_2 214 rfl rfl)⟩, gw_2 215 rfl rfl, gw_2 216 rfl rfl, by decide, TX11, 5, rfl⟩
theorem lkL_45 : gLkV RL 45 MX11_nearest 3 11 := ⟨⟨⟨gw_3 10 rfl rfl, gw_1 1 rfl rfl, by decide, by decide, by decide +kernel⟩, Or.inl (gw_3 7 rfl rfl)⟩, gw_3 8 rfl rfl, gw_3 9 rfl rfl, by decide, TX11, 5, rfl⟩
theorem lkL_48 : gLkV RL 48 MX11_clearText 0 11 := ⟨⟨⟨gw_3 26 rfl rfl, gw_1 1 rfl rfl, by decide, by decide, by decide +kernel⟩, Or.inl (gw_3 23 rfl rfl)⟩, gw_3 24 rfl rfl, gw_3 25 rfl rfl, by decide, TX11, 5, rfl⟩
theorem lkL_52 : gLkV RL 52 MX11_type 1 11 := ⟨⟨⟨gw_3 30 rfl rfl, gw_1 1 rfl rfl, by decide, by decide, by decide +kernel⟩, Or.inl (gw_3 27 rfl rfl)⟩, gw_3 28 rfl rfl, gw_3 29 rfl rfl, by decide, TX11, 5, rfl⟩
theorem lkL_55 : gLkV RL 55 MX11_fault 1 11 := ⟨⟨⟨gw_3 48 rfl rfl, gw_1 1 rfl rfl, by decide, by decide, by decide +kernel⟩, Or.inl (gw_3 45 rfl rfl)⟩, gw_3 46 rfl rfl, gw_3 47 rfl rfl, by decide, TX11, 5, rfl⟩
theorem lkL_58 : gLkV RL 58 MX11_read 0 11 := ⟨⟨⟨gw_3 86 rfl rfl, gw_1 1 rfl rfl, by decide, by decide, by decide +kernel⟩, Or.inl (gw_3 83 rfl rfl)⟩, gw_3 84 rfl rfl, gw_3 85 rfl rfl, by decide, TX11, 5, rfl⟩
theorem kcL_61 : Cond.constant RL 61 (-1000002) ∈ gw := gw_3 88 rfl rfl
theorem lkL_62 : gLkV RL 62 MX11_begin 3 11 := ⟨⟨⟨gw_3 95 rfl rfl, gw_1 1 rfl rfl, by decide, by decide, by decide +kernel⟩, Or.inl (gw_3 92 rfl rfl)⟩, gw_3 93 rfl rfl, gw_3 94 rfl rfl, by decide, TX11, 5, rfl⟩
theorem kcL_65 : Cond.constant RL 65 (-1000001) ∈ gw := gw_3 117 rfl rfl
theorem kcL_66 : Cond.constant RL 66 (-1000003) ∈ gw := gw_3 118 rfl rfl
theorem lkL_67 : gLkV RL 67 MX11_step 2 11 := ⟨⟨⟨gw_3 122 rfl rfl, gw_1 1 rfl rfl, by decide, by decide, by decide +kernel⟩, Or.inl (gw_3 119 rfl rfl)⟩, gw_3 120 rfl rfl, gw_3 121 rfl rfl, by decide, TX11, 5, rfl⟩
theorem lkL_70 : gLkV RL 70 MX11_branch 3 11 := ⟨⟨⟨gw_3 162 rfl rfl, gw_1 1 rfl rfl, by decide, by decide, by decide +kernel⟩, Or.inl (gw_3 159 rfl rfl)⟩, gw_3 160 rfl rfl, gw_3 161 rfl rfl, by decide, TX11, 5, rfl⟩
theorem lkL_73 : gLkV RL 73 MX11_drop 1 11 := ⟨⟨⟨gw_3 183 rfl rfl, gw_1 1 rfl rfl, by decide, by decide, by decide +kernel⟩, Or.inl (gw_3 180 rfl rfl)⟩, gw_3 181 rfl rfl, gw_3 182 rfl rfl, by decide, TX11, 5, rfl⟩
theorem lkL_76 : gLkV RL 76 MX11_set 2 11 := ⟨⟨⟨gw_3 192 rfl rfl, gw_1 1 rfl rfl, by decide, by decide, by decide +kernel⟩, Or.inl (gw_3 189 rfl rfl)⟩, gw_3 190 rfl rfl, gw_3 191 rfl rfl, by decide, TX11, 5, rfl⟩
theorem lkL_79 : gLkV RL 79 MX11_term 3 11 := ⟨⟨⟨gw_2 75 rfl rfl, gw_1 1 rfl rfl, by decide, by decide, by decide +kernel⟩, Or.inl (gw_2 72 rfl rfl)⟩, gw_2 73 rfl rfl, gw_2 74 rfl rfl, by decide, TX11, 5, rfl⟩
theorem lkL_82 : gLkV RL 82 MX11_dropTerm 1 11 := ⟨⟨⟨gw_3 209 rfl rfl, gw_1 1 rfl rfl, by decide, by decide, by decide +kernel⟩, Or.inl (gw_3 206 rfl rfl)⟩, gw_3 207 rfl rfl, gw_3 208 rfl rfl, by decide, TX11, 5, rfl⟩
theorem lkL_85 : gLkS RL 85 ML_types 2 := ⟨⟨⟨gw_3 22 rfl rfl, gw_1 0 rfl rfl, by decide, by decide, by decide +kernel⟩, Or.inl (gw_3 20 rfl rfl)⟩, gw_3 21 rfl rfl⟩
theorem lkL_89 : gLkS RL 89 ML_reads 1 := ⟨⟨⟨gw_3 44 rfl rfl, gw_1 0 rfl rfl, by decide, by decide, by decide +kernel⟩, Or.inl (gw_3 42 rfl rfl)⟩, gw_3 43 rfl rfl⟩
theorem clL_14 : Cond.classLink RL 14 RX11 ∈ gw := gw_1 14 rfl rfl
theorem lkL_93 : gLkI RL 93 MX11_init 0 := ⟨⟨⟨gw_1 18 rfl rfl, gw_1 1 rfl rfl, by decide, by decide, by decide +kernel⟩, Or.inl (gw_1 16 rfl rfl)⟩, gw_1 17 rfl rfl, rfl, rfl⟩
theorem lkL_94 : gLkS RL 94 ML_holds 2 := ⟨⟨⟨gw_2 212 rfl rfl, gw_1 0 rfl rfl, by decide, by decide, by decide +kernel⟩, Or.inl (gw_2 210 rfl rfl)⟩, gw_2 211 rfl rfl⟩
theorem lkL_97 : gLkV RL 97 MX11_undo 0 11 := ⟨⟨⟨gw_2 152 rfl rfl, gw_1 1 rfl rfl, by decide, by decide, by decide +kernel⟩, Or.inl (gw_2 149 rfl rfl)⟩, gw_2 150 rfl rfl, gw_2 151 rfl rfl, by decide, TX11, 5, rfl⟩
theorem lkL_100 : gLkS RL 100 ML_lot 2 := ⟨⟨⟨gw_2 160 rfl rfl, gw_1 0 rfl rfl, by decide, by decide, by decide +kernel⟩, Or.inl (gw_2 158 rfl rfl)⟩, gw_2 159 rfl rfl⟩
theorem kcL_104 : Cond.constant RL 104 (67108863) ∈ gw := gw_3 214 rfl rfl
theorem kcL_105 : Cond.constant RL 105 (16777216) ∈ gw := gw_3 215 rfl rfl
theorem lkL_106 : gLkS RL 106 ML_digest 1 := ⟨⟨⟨gw_2 168 rfl rfl, gw_1 0 rfl rfl, by decide, by decide, by decide +kernel⟩, Or.inl (gw_2 166 rfl rfl)⟩, gw_2 167 rfl rfl⟩
theorem lkL_110 : gLkS RL 110 ML_acts 3 := ⟨⟨⟨gw_3 91 rfl rfl, gw_1 0 rfl rfl, by decide, by decide, by decide +kernel⟩, Or.inl (gw_3 89 rfl rfl)⟩, gw_3 90 rfl rfl⟩
theorem insX0 : Cond.instantiable RX0 4 ∈ gw := gw_1 185 rfl rfl
theorem iniX0 : Cond.initialized RX0 ∈ gw := gw_1 9 rfl rfl
theorem insX1 : Cond.instantiable RX1 3 ∈ gw := gw_1 159 rfl rfl
theorem iniX1 : Cond.initialized RX1 ∈ gw := gw_1 7 rfl rfl
theorem insX2 : Cond.instantiable RX2 2 ∈ gw := gw_1 179 rfl rfl
theorem iniX2 : Cond.initialized RX2 ∈ gw := gw_1 8 rfl rfl
theorem insX3 : Cond.instantiable RX3 8 ∈ gw := gw_2 21 rfl rfl
theorem iniX3 : Cond.initialized RX3 ∈ gw := gw_1 12 rfl rfl
theorem insX4 : Cond.instantiable RX4 1 ∈ gw := gw_1 132 rfl rfl
theorem iniX4 : Cond.initialized RX4 ∈ gw := gw_1 6 rfl rfl
theorem insX5 : Cond.instantiable RX5 3 ∈ gw := gw_1 191 rfl rfl
theorem iniX5 : Cond.initialized RX5 ∈ gw := gw_1 10 rfl rfl
theorem insX6 : Cond.instantiable RX6 3 ∈ gw := gw_1 23 rfl rfl
theorem iniX6 : Cond.initialized RX6 ∈ gw := gw_1 2 rfl rfl
theorem insX7 : Cond.instantiable RX7 4 ∈ gw := gw_1 29 rfl rfl
theorem iniX7 : Cond.initialized RX7 ∈ gw := gw_1 3 rfl rfl
theorem insX8 : Cond.instantiable RX8 2 ∈ gw := gw_2 5 rfl rfl
theorem iniX8 : Cond.initialized RX8 ∈ gw := gw_1 11 rfl rfl
theorem insX9 : Cond.instantiable RX9 10 ∈ gw := gw_1 64 rfl rfl
theorem iniX9 : Cond.initialized RX9 ∈ gw := gw_1 5 rfl rfl
theorem insX10 : Cond.instantiable RX10 4 ∈ gw := gw_1 57 rfl rfl
theorem iniX10 : Cond.initialized RX10 ∈ gw := gw_1 4 rfl rfl
theorem insX11 : Cond.instantiable RX11 5 ∈ gw := gw_1 15 rfl rfl
theorem iniX11 : Cond.initialized RX11 ∈ gw := gw_1 1 rfl rfl
theorem oim : Cond.instanceMethod objectInit ∈ gw := gw_1 20 rfl rfl
theorem oic : Cond.code objectInit ⟨#[0xb1]⟩ 1 none ∈ gw := gw_1 21 rfl rfl
theorem aci : Cond.arrayClass .int ∈ gw := gw_1 55 rfl rfl
theorem acz : Cond.arrayClass .boolean ∈ gw := gw_1 116 rfl rfl
