/-! the methods, and what the tables say of fields, calls, constants, new objects -/
abbrev MX6_init : zM := (yX6_init, cX6_init, 1, none)
abbrev MX5_init : zM := (yX5_init, cX5_init, 1, none)
abbrev MX1_init : zM := (yX1_init, cX1_init, 1, none)
abbrev MX3_init : zM := (yX3_init, cX3_init, 1, none)
abbrev MX0_init : zM := (yX0_init, cX0_init, 1, none)
abbrev MX4_init : zM := (yX4_init, cX4_init, 1, none)
abbrev MX2_init : zM := (yX2_init, cX2_init, 1, none)
abbrev MX1_add : zM := (yX1_add, cX1_add, 2, none)
abbrev MX6_put : zM := (yX6_put, cX6_put, 3, none)
abbrev MX3_settle : zM := (yX3_settle, cX3_settle, 2, none)
abbrev MX6_allBelow : zM := (yX6_allBelow, cX6_allBelow, 1, (some .int))
abbrev MX6_bit : zM := (yX6_bit, cX6_bit, 1, (some .int))
abbrev MX6_feed : zM := (yX6_feed, cX6_feed, 5, (some .int))
abbrev MX5_append : zM := (yX5_append, cX5_append, 2, none)
abbrev MX6_parish : zM := (yX6_parish, cX6_parish, 1, (some .int))
abbrev MX3_readFrom : zM := (yX3_readFrom, cX3_readFrom, 3, none)
abbrev MX5_begin : zM := (yX5_begin, cX5_begin, 1, none)
abbrev MX5_goesOn : zM := (yX5_goesOn, cX5_goesOn, 1, (some .boolean))
abbrev MX5_skipBlanks : zM := (yX5_skipBlanks, cX5_skipBlanks, 1, none)
abbrev MX5_byteAt : zM := (yX5_byteAt, cX5_byteAt, 2, (some .int))
abbrev MX3_readClause : zM := (yX3_readClause, cX3_readClause, 3, none)
abbrev MX5_takeWord : zM := (yX5_takeWord, cX5_takeWord, 4, (some .boolean))
abbrev MJ0_length_8abf5 : zM := (yJ0_length_8abf5, cJ0_length_8abf5, 1, (some .int))
abbrev MJ0_coder_7d493 : zM := (yJ0_coder_7d493, cJ0_coder_7d493, 1, (some .byte))
abbrev MJ0_charAt_5068e : zM := (yJ0_charAt_5068e, cJ0_charAt_5068e, 2, (some .char))
abbrev MJ0_isLatin1_aae02 : zM := (yJ0_isLatin1_aae02, cJ0_isLatin1_aae02, 1, (some .boolean))
abbrev MJ1_charAt_3b067 : zM := (yJ1_charAt_3b067, cJ1_charAt_3b067, 2, (some .char))
abbrev MJ0_checkIndex_df160 : zM := (yJ0_checkIndex_df160, cJ0_checkIndex_df160, 2, none)
abbrev MJ3_checkIndex_8e157 : zM := (yJ3_checkIndex_8e157, cJ3_checkIndex_8e157, 3, (some .int))
abbrev MJ2_charAt_3b067 : zM := (yJ2_charAt_3b067, cJ2_charAt_3b067, 2, (some .char))
abbrev MJ2_checkIndex_2214a : zM := (yJ2_checkIndex_2214a, cJ2_checkIndex_2214a, 2, none)
abbrev MJ2_length_9d52b : zM := (yJ2_length_9d52b, cJ2_length_9d52b, 1, (some .int))
abbrev MJ2_getChar_3b067 : zM := (yJ2_getChar_3b067, cJ2_getChar_3b067, 2, (some .char))
abbrev MX3_readSun : zM := (yX3_readSun, cX3_readSun, 3, none)
abbrev MX5_blame : zM := (yX5_blame, cX5_blame, 3, none)
abbrev MX5_takeNumber : zM := (yX5_takeNumber, cX5_takeNumber, 5, (some .int))
abbrev MX5_takeStop : zM := (yX5_takeStop, cX5_takeStop, 1, none)
abbrev MX3_readYard : zM := (yX3_readYard, cX3_readYard, 3, none)
abbrev MX3_readDead : zM := (yX3_readDead, cX3_readDead, 3, none)
abbrev MX3_copyFrom : zM := (yX3_copyFrom, cX3_copyFrom, 2, none)
abbrev MX6_copyRow : zM := (yX6_copyRow, cX6_copyRow, 3, none)
abbrev MX6_at : zM := (yX6_at, cX6_at, 2, (some .int))
abbrev MX6_custom : zM := (yX6_custom, cX6_custom, 1, (some .int))
abbrev MX1_readFrom : zM := (yX1_readFrom, cX1_readFrom, 3, none)
abbrev MX1_readClause : zM := (yX1_readClause, cX1_readClause, 4, none)
abbrev MX1_counts : zM := (yX1_counts, cX1_counts, 3, (some .boolean))
abbrev MX1_copyFrom : zM := (yX1_copyFrom, cX1_copyFrom, 2, none)
abbrev MX6_fault : zM := (yX6_fault, cX6_fault, 1, (some .int))
abbrev MX6_told : zM := (yX6_told, cX6_told, 2, (some .int))
abbrev MX3_waiting : zM := (yX3_waiting, cX3_waiting, 1, (some .int))
abbrev MX3_laid : zM := (yX3_laid, cX3_laid, 3, (some .int))
abbrev MX6_yard : zM := (yX6_yard, cX6_yard, 3, (some .int))
abbrev MX3_hasYard : zM := (yX3_hasYard, cX3_hasYard, 2, (some .boolean))
abbrev MX3_whoLiesIn : zM := (yX3_whoLiesIn, cX3_whoLiesIn, 3, (some .int))
abbrev MX6_dead : zM := (yX6_dead, cX6_dead, 3, (some .int))
abbrev MX3_hasDead : zM := (yX3_hasDead, cX3_hasDead, 2, (some .boolean))
abbrev MX6_has : zM := (yX6_has, cX6_has, 2, (some .boolean))
abbrev MX6_order : zM := (yX6_order, cX6_order, 4, (some .int))
abbrev MX3_placeAmong : zM := (yX3_placeAmong, cX3_placeAmong, 8, (some .int))
abbrev MX3_urgentClaim : zM := (yX3_urgentClaim, cX3_urgentClaim, 5, (some .long))
abbrev MX3_claim : zM := (yX3_claim, cX3_claim, 6, (some .long))
abbrev MX3_worth : zM := (yX3_worth, cX3_worth, 3, (some .int))
abbrev MX6_letter : zM := (yX6_letter, cX6_letter, 4, (some .int))
abbrev MX6_gift : zM := (yX6_gift, cX6_gift, 4, (some .int))
abbrev MJ9_min_7cf53 : zM := (yJ9_min_7cf53, cJ9_min_7cf53, 2, (some .int))
abbrev MX6_knock : zM := (yX6_knock, cX6_knock, 4, (some .int))
abbrev MX6_day : zM := (yX6_day, cX6_day, 2, (some .int))
abbrev MX3_passDay : zM := (yX3_passDay, cX3_passDay, 5, none)
abbrev MX3_taken : zM := (yX3_taken, cX3_taken, 3, (some .int))
abbrev MX3_thawOf : zM := (yX3_thawOf, cX3_thawOf, 3, (some .int))
abbrev MJ9_max_7cf53 : zM := (yJ9_max_7cf53, cJ9_max_7cf53, 2, (some .int))
abbrev MX3_soft : zM := (yX3_soft, cX3_soft, 3, (some .int))
abbrev MX6_rats : zM := (yX6_rats, cX6_rats, 4, (some .int))
abbrev MX3_passNight : zM := (yX3_passNight, cX3_passNight, 4, none)
abbrev MX3_draw : zM := (yX3_draw, cX3_draw, 2, (some .int))
abbrev MX3_boardless : zM := (yX3_boardless, cX3_boardless, 3, (some .int))
abbrev MX6_lay : zM := (yX6_lay, cX6_lay, 3, (some .int))
abbrev MX3_layDown : zM := (yX3_layDown, cX3_layDown, 4, (some .int))
abbrev MX6_spring : zM := (yX6_spring, cX6_spring, 4, (some .int))
abbrev MX6_useSpades : zM := (yX6_useSpades, cX6_useSpades, 5, none)
abbrev MX3_firstAmong : zM := (yX3_firstAmong, cX3_firstAmong, 9, (some .int))
abbrev MX3_softAndFree : zM := (yX3_softAndFree, cX3_softAndFree, 1, (some .int))
abbrev MJ6_numberOfTrailingZeros_0f7a4 : zM := (yJ6_numberOfTrailingZeros_0f7a4, cJ6_numberOfTrailingZeros_0f7a4, 2, (some .int))
abbrev MJ6_bitCount_0f7a4 : zM := (yJ6_bitCount_0f7a4, cJ6_bitCount_0f7a4, 1, (some .int))
abbrev MX6_offended : zM := (yX6_offended, cX6_offended, 2, (some .int))
abbrev MX4_begin : zM := (yX4_begin, cX4_begin, 5, none)
abbrev MX4_whoOffends : zM := (yX4_whoOffends, cX4_whoOffends, 4, (some .int))
abbrev MX4_offends : zM := (yX4_offends, cX4_offends, 3, (some .boolean))
abbrev MX6_quarrels : zM := (yX6_quarrels, cX6_quarrels, 1, (some .int))
abbrev MX4_quarrelsNow : zM := (yX4_quarrelsNow, cX4_quarrelsNow, 3, (some .int))
abbrev MX4_quarrelsAmong : zM := (yX4_quarrelsAmong, cX4_quarrelsAmong, 5, (some .int))
abbrev MX4_quarrelsOf : zM := (yX4_quarrelsOf, cX4_quarrelsOf, 5, (some .int))
abbrev MJ9_abs_0f7a4 : zM := (yJ9_abs_0f7a4, cJ9_abs_0f7a4, 1, (some .int))
abbrev MX6_laying : zM := (yX6_laying, cX6_laying, 2, (some .int))
abbrev MX4_find : zM := (yX4_find, cX4_find, 3, none)
abbrev MX4_search : zM := (yX4_search, cX4_search, 6, none)
abbrev MX6_when : zM := (yX6_when, cX6_when, 3, (some .int))
abbrev MX3_daysUntilSoft : zM := (yX3_daysUntilSoft, cX3_daysUntilSoft, 4, (some .int))
abbrev MX3_softBehind : zM := (yX3_softBehind, cX3_softBehind, 6, (some .int))
abbrev MX6_span : zM := (yX6_span, cX6_span, 5, (some .int))
abbrev MX6_bribe : zM := (yX6_bribe, cX6_bribe, 3, (some .int))
abbrev MX6_leastBribe : zM := (yX6_leastBribe, cX6_leastBribe, 8, (some .int))
abbrev MX6_label : zM := (yX6_label, cX6_label, 4, (some .int))
abbrev MX6_mark : zM := (yX6_mark, cX6_mark, 4, (some .int))
abbrev MX6_fits : zM := (yX6_fits, cX6_fits, 1, (some .int))
abbrev MX2_countWays : zM := (yX2_countWays, cX2_countWays, 7, (some .int))
abbrev MX6_mixed : zM := (yX6_mixed, cX6_mixed, 2, (some .int))
abbrev MX2_weigh : zM := (yX2_weigh, cX2_weigh, 6, none)
abbrev MX2_changesWith : zM := (yX2_changesWith, cX2_changesWith, 6, (some .int))
abbrev MX2_fewestChanges : zM := (yX2_fewestChanges, cX2_fewestChanges, 1, (some .int))
abbrev MX2_nameOf : zM := (yX2_nameOf, cX2_nameOf, 7, (some .int))
abbrev MX6_churches : zM := (yX6_churches, cX6_churches, 7, (some .int))
abbrev MX3_ranksOf : zM := (yX3_ranksOf, cX3_ranksOf, 4, (some .int))
abbrev MX6_write : zM := (yX6_write, cX6_write, 3, (some .int))
abbrev MX0_add : zM := (yX0_add, cX0_add, 3, none)
abbrev MX6_tear : zM := (yX6_tear, cX6_tear, 2, (some .int))
abbrev MX6_judge : zM := (yX6_judge, cX6_judge, 6, (some .int))
abbrev MX6_seed : zM := (yX6_seed, cX6_seed, 3, (some .int))
abbrev MX6_keep : zM := (yX6_keep, cX6_keep, 2, (some .int))
abbrev MX6_goBack : zM := (yX6_goBack, cX6_goBack, 2, (some .int))
abbrev MX7_init : zM := (yX7_init, cX7_init, 1, none)
abbrev MX7_feed : zM := (yX7_feed, cX7_feed, 5, (some .int))
abbrev MX7_in : zM := (yX7_in, cX7_in, 6, (some .boolean))
abbrev MX7_parish : zM := (yX7_parish, cX7_parish, 2, (some .int))
abbrev MX7_start : zM := (yX7_start, cX7_start, 1, none)
abbrev MX7_here : zM := (yX7_here, cX7_here, 1, (some .int))
abbrev MX7_takeClause : zM := (yX7_takeClause, cX7_takeClause, 3, none)
abbrev MX7_takeWord : zM := (yX7_takeWord, cX7_takeWord, 2, none)
abbrev MX7_isWord : zM := (yX7_isWord, cX7_isWord, 9, (some .boolean))
abbrev MX7_want : zM := (yX7_want, cX7_want, 4, (some .boolean))
abbrev MX7_takeNumber : zM := (yX7_takeNumber, cX7_takeNumber, 6, (some .int))
abbrev MX7_takeEnd : zM := (yX7_takeEnd, cX7_takeEnd, 1, none)
abbrev MX7_custom : zM := (yX7_custom, cX7_custom, 4, (some .int))
abbrev MX7_has : zM := (yX7_has, cX7_has, 2, (some .boolean))
abbrev MX7_fault : zM := (yX7_fault, cX7_fault, 1, (some .int))
abbrev MX7_told : zM := (yX7_told, cX7_told, 2, (some .int))
abbrev MX7_loft : zM := (yX7_loft, cX7_loft, 4, (some .int))
abbrev MX7_isInLoft : zM := (yX7_isInLoft, cX7_isInLoft, 3, (some .boolean))
abbrev MX7_one : zM := (yX7_one, cX7_one, 1, (some .int))
abbrev MX7_laid : zM := (yX7_laid, cX7_laid, 4, (some .int))
abbrev MX7_yard : zM := (yX7_yard, cX7_yard, 3, (some .int))
abbrev MX7_isYard : zM := (yX7_isYard, cX7_isYard, 2, (some .boolean))
abbrev MX7_who : zM := (yX7_who, cX7_who, 4, (some .int))
abbrev MX7_dead : zM := (yX7_dead, cX7_dead, 3, (some .int))
abbrev MX7_isDead : zM := (yX7_isDead, cX7_isDead, 2, (some .boolean))
abbrev MX7_order : zM := (yX7_order, cX7_order, 2, (some .int))
abbrev MX7_inOrder : zM := (yX7_inOrder, cX7_inOrder, 4, (some .int))
abbrev MX7_placeOf : zM := (yX7_placeOf, cX7_placeOf, 5, (some .int))
abbrev MX7_isAhead : zM := (yX7_isAhead, cX7_isAhead, 6, (some .boolean))
abbrev MX7_isAheadByCustom : zM := (yX7_isAheadByCustom, cX7_isAheadByCustom, 6, (some .boolean))
abbrev MX7_valueBy : zM := (yX7_valueBy, cX7_valueBy, 4, (some .int))
abbrev MX7_letter : zM := (yX7_letter, cX7_letter, 4, (some .int))
abbrev MX7_gift : zM := (yX7_gift, cX7_gift, 3, (some .int))
abbrev MX7_knock : zM := (yX7_knock, cX7_knock, 3, (some .int))
abbrev MX7_day : zM := (yX7_day, cX7_day, 2, (some .int))
abbrev MX7_pass : zM := (yX7_pass, cX7_pass, 3, none)
abbrev MX7_rate : zM := (yX7_rate, cX7_rate, 4, (some .int))
abbrev MX7_softYards : zM := (yX7_softYards, cX7_softYards, 3, (some .int))
abbrev MX7_rats : zM := (yX7_rats, cX7_rats, 5, (some .int))
abbrev MX7_gnaw : zM := (yX7_gnaw, cX7_gnaw, 3, none)
abbrev MX7_draw : zM := (yX7_draw, cX7_draw, 2, (some .int))
abbrev MX7_lay : zM := (yX7_lay, cX7_lay, 3, (some .int))
abbrev MX7_layIn : zM := (yX7_layIn, cX7_layIn, 5, (some .int))
abbrev MX7_spring : zM := (yX7_spring, cX7_spring, 9, (some .int))
abbrev MX7_leastSoft : zM := (yX7_leastSoft, cX7_leastSoft, 2, (some .int))
abbrev MX7_ones : zM := (yX7_ones, cX7_ones, 3, (some .int))
abbrev MX7_offended : zM := (yX7_offended, cX7_offended, 4, (some .int))
abbrev MX7_offends : zM := (yX7_offends, cX7_offends, 4, (some .boolean))
abbrev MX7_quarrels : zM := (yX7_quarrels, cX7_quarrels, 1, (some .int))
abbrev MX7_quarrelsIn : zM := (yX7_quarrelsIn, cX7_quarrelsIn, 6, (some .int))
abbrev MX7_size : zM := (yX7_size, cX7_size, 1, (some .int))
abbrev MX7_laying : zM := (yX7_laying, cX7_laying, 4, (some .int))
abbrev MX7_findLaying : zM := (yX7_findLaying, cX7_findLaying, 6, (some .boolean))
abbrev MX7_copy : zM := (yX7_copy, cX7_copy, 4, none)
abbrev MX7_isFree : zM := (yX7_isFree, cX7_isFree, 2, (some .boolean))
abbrev MX7_fill : zM := (yX7_fill, cX7_fill, 4, (some .boolean))
abbrev MX7_isUnlike : zM := (yX7_isUnlike, cX7_isUnlike, 4, (some .boolean))
abbrev MX7_goOn : zM := (yX7_goOn, cX7_goOn, 4, (some .boolean))
abbrev MX7_when : zM := (yX7_when, cX7_when, 3, (some .int))
abbrev MX7_whenSoft : zM := (yX7_whenSoft, cX7_whenSoft, 6, (some .int))
abbrev MX7_daysTill : zM := (yX7_daysTill, cX7_daysTill, 4, (some .int))
abbrev MX7_span : zM := (yX7_span, cX7_span, 5, (some .int))
abbrev MX7_bribe : zM := (yX7_bribe, cX7_bribe, 4, (some .int))
abbrev MX7_label : zM := (yX7_label, cX7_label, 4, (some .int))
abbrev MX7_mark : zM := (yX7_mark, cX7_mark, 4, (some .int))
abbrev MX7_fits : zM := (yX7_fits, cX7_fits, 1, (some .int))
abbrev MX7_findNames : zM := (yX7_findNames, cX7_findNames, 6, none)
abbrev MX7_ahead : zM := (yX7_ahead, cX7_ahead, 2, (some .int))
abbrev MX7_mixed : zM := (yX7_mixed, cX7_mixed, 5, (some .int))
abbrev MX7_churches : zM := (yX7_churches, cX7_churches, 8, (some .int))
abbrev MX7_write : zM := (yX7_write, cX7_write, 3, (some .int))
abbrev MX7_tear : zM := (yX7_tear, cX7_tear, 2, (some .int))
abbrev MX7_judge : zM := (yX7_judge, cX7_judge, 5, (some .int))
abbrev MX7_seed : zM := (yX7_seed, cX7_seed, 3, (some .int))
abbrev MX7_keep : zM := (yX7_keep, cX7_keep, 2, (some .int))
abbrev MX7_goBack : zM := (yX7_goBack, cX7_goBack, 2, (some .int))
abbrev ML_law : zM := (yL_law, cL_law, 4, some .boolean)
theorem zh_int : Cond.arrayClass .int ∈ zT := (zt1 (i := 67) (by decide +kernel) rfl)
theorem zh_byte : Cond.arrayClass .byte ∈ zT := (zt1 (i := 50) (by decide +kernel) rfl)
theorem zh_boolean : Cond.arrayClass .boolean ∈ zT := (zt4 (i := 125) (by decide +kernel) rfl)
theorem zh_oi : Cond.instanceMethod Lib.objectInit ∈ zT := (zt1 (i := 21) (by decide +kernel) rfl)
theorem zh_oc : Cond.code Lib.objectInit ⟨#[0xb1]⟩ 1 none ∈ zT := (zt1 (i := 22) (by decide +kernel) rfl)
theorem zh_max : Cond.static Lib.Math.max.name ∈ zT := (zt3 (i := 38) (by decide +kernel) rfl)
theorem zh_maxc : Cond.code Lib.Math.max.name Lib.Math.max.code 2 (some .int) ∈ zT := (zt3 (i := 39) (by decide +kernel) rfl)
theorem zh_min : Cond.static Lib.Math.min.name ∈ zT := (zt3 (i := 15) (by decide +kernel) rfl)
theorem zh_minc : Cond.code Lib.Math.min.name Lib.Math.min.code 2 (some .int) ∈ zT := (zt3 (i := 16) (by decide +kernel) rfl)
theorem zh_abs : Cond.static Lib.Math.abs.name ∈ zT := (zt3 (i := 143) (by decide +kernel) rfl)
theorem zh_absc : Cond.code Lib.Math.abs.name Lib.Math.abs.code 1 (some .int) ∈ zT := (zt3 (i := 144) (by decide +kernel) rfl)
theorem zh_mi : Cond.initialized "java/lang/Math" ∈ zT := (zt1 (i := 13) (by decide +kernel) rfl)
theorem zlX0 : ∀ w ∈ wsX00, w ∈ zT := by
  intro w hw
  obtain ⟨k, hk, rfl⟩ := List.mem_map.mp hw
  have hk := List.mem_range.mp hk
  match k, hk with
  | 0, _ => exact (zt1 (i := 156) (by decide +kernel) rfl)
  | 1, _ => exact (zt1 (i := 158) (by decide +kernel) rfl)
  | 2, _ => exact (zt1 (i := 160) (by decide +kernel) rfl)
  | k + 3, hk => exact absurd hk (by omega)
theorem zlX1 : ∀ w ∈ wsX10, w ∈ zT := by
  intro w hw
  obtain ⟨k, hk, rfl⟩ := List.mem_map.mp hw
  have hk := List.mem_range.mp hk
  match k, hk with
  | 0, _ => exact (zt1 (i := 62) (by decide +kernel) rfl)
  | 1, _ => exact (zt1 (i := 64) (by decide +kernel) rfl)
  | k + 2, hk => exact absurd hk (by omega)
theorem zlX2 : ∀ w ∈ wsX20, w ∈ zT := by
  intro w hw
  obtain ⟨k, hk, rfl⟩ := List.mem_map.mp hw
  have hk := List.mem_range.mp hk
  match k, hk with
  | 0, _ => exact (zt1 (i := 198) (by decide +kernel) rfl)
  | k + 1, hk => exact absurd hk (by omega)
theorem zlX3 : ∀ w ∈ wsX30, w ∈ zT := by
  intro w hw
  obtain ⟨k, hk, rfl⟩ := List.mem_map.mp hw
  have hk := List.mem_range.mp hk
  match k, hk with
  | 0, _ => exact (zt1 (i := 111) (by decide +kernel) rfl)
  | 1, _ => exact (zt1 (i := 113) (by decide +kernel) rfl)
  | 2, _ => exact (zt1 (i := 115) (by decide +kernel) rfl)
  | 3, _ => exact (zt1 (i := 117) (by decide +kernel) rfl)
  | 4, _ => exact (zt1 (i := 119) (by decide +kernel) rfl)
  | 5, _ => exact (zt1 (i := 121) (by decide +kernel) rfl)
  | 6, _ => exact (zt1 (i := 123) (by decide +kernel) rfl)
  | 7, _ => exact (zt1 (i := 125) (by decide +kernel) rfl)
  | 8, _ => exact (zt1 (i := 127) (by decide +kernel) rfl)
  | 9, _ => exact (zt1 (i := 129) (by decide +kernel) rfl)
  | 10, _ => exact (zt1 (i := 131) (by decide +kernel) rfl)
  | 11, _ => exact (zt1 (i := 133) (by decide +kernel) rfl)
  | 12, _ => exact (zt1 (i := 135) (by decide +kernel) rfl)
  | 13, _ => exact (zt1 (i := 137) (by decide +kernel) rfl)
  | 14, _ => exact (zt1 (i := 139) (by decide +kernel) rfl)
  | 15, _ => exact (zt1 (i := 141) (by decide +kernel) rfl)
  | k + 16, hk => exact absurd hk (by omega)
theorem zlX4 : ∀ w ∈ wsX40, w ∈ zT := by
  intro w hw
  obtain ⟨k, hk, rfl⟩ := List.mem_map.mp hw
  have hk := List.mem_range.mp hk
  match k, hk with
  | 0, _ => exact (zt1 (i := 178) (by decide +kernel) rfl)
  | 1, _ => exact (zt1 (i := 180) (by decide +kernel) rfl)
  | 2, _ => exact (zt1 (i := 182) (by decide +kernel) rfl)
  | 3, _ => exact (zt1 (i := 184) (by decide +kernel) rfl)
  | 4, _ => exact (zt1 (i := 186) (by decide +kernel) rfl)
  | 5, _ => exact (zt1 (i := 188) (by decide +kernel) rfl)
  | k + 6, hk => exact absurd hk (by omega)
theorem zlX5 : ∀ w ∈ wsX50, w ∈ zT := by
  intro w hw
  obtain ⟨k, hk, rfl⟩ := List.mem_map.mp hw
  have hk := List.mem_range.mp hk
  match k, hk with
  | 0, _ => exact (zt1 (i := 39) (by decide +kernel) rfl)
  | 1, _ => exact (zt1 (i := 41) (by decide +kernel) rfl)
  | 2, _ => exact (zt1 (i := 43) (by decide +kernel) rfl)
  | 3, _ => exact (zt1 (i := 45) (by decide +kernel) rfl)
  | 4, _ => exact (zt1 (i := 47) (by decide +kernel) rfl)
  | k + 5, hk => exact absurd hk (by omega)
theorem zlX6 : ∀ w ∈ wsX60, w ∈ zT := by
  intro w hw
  obtain ⟨k, hk, rfl⟩ := List.mem_map.mp hw
  have hk := List.mem_range.mp hk
  match k, hk with
  | 0, _ => exact (zt1 (i := 231) (by decide +kernel) rfl)
  | 1, _ => exact (zt1 (i := 233) (by decide +kernel) rfl)
  | 2, _ => exact (zt1 (i := 235) (by decide +kernel) rfl)
  | 3, _ => exact (zt1 (i := 237) (by decide +kernel) rfl)
  | 4, _ => exact (zt1 (i := 239) (by decide +kernel) rfl)
  | 5, _ => exact (zt2 (i := 1) (by decide +kernel) rfl)
  | 6, _ => exact (zt2 (i := 3) (by decide +kernel) rfl)
  | 7, _ => exact (zt2 (i := 5) (by decide +kernel) rfl)
  | 8, _ => exact (zt2 (i := 7) (by decide +kernel) rfl)
  | 9, _ => exact (zt2 (i := 9) (by decide +kernel) rfl)
  | 10, _ => exact (zt2 (i := 11) (by decide +kernel) rfl)
  | 11, _ => exact (zt2 (i := 13) (by decide +kernel) rfl)
  | k + 12, hk => exact absurd hk (by omega)
theorem zlX7 : ∀ w ∈ wsX70, w ∈ zT := by
  intro w hw
  obtain ⟨k, hk, rfl⟩ := List.mem_map.mp hw
  have hk := List.mem_range.mp hk
  match k, hk with
  | 0, _ => exact (zt4 (i := 62) (by decide +kernel) rfl)
  | 1, _ => exact (zt4 (i := 64) (by decide +kernel) rfl)
  | 2, _ => exact (zt4 (i := 66) (by decide +kernel) rfl)
  | 3, _ => exact (zt4 (i := 68) (by decide +kernel) rfl)
  | 4, _ => exact (zt4 (i := 70) (by decide +kernel) rfl)
  | 5, _ => exact (zt4 (i := 72) (by decide +kernel) rfl)
  | 6, _ => exact (zt4 (i := 74) (by decide +kernel) rfl)
  | 7, _ => exact (zt4 (i := 76) (by decide +kernel) rfl)
  | 8, _ => exact (zt4 (i := 78) (by decide +kernel) rfl)
  | 9, _ => exact (zt4 (i := 80) (by decide +kernel) rfl)
  | 10, _ => exact (zt4 (i := 82) (by decide +kernel) rfl)
  | 11, _ => exact (zt4 (i := 84) (by decide +kernel) rfl)
  | 12, _ => exact (zt4 (i := 86) (by decide +kernel) rfl)
  | 13, _ => exact (zt4 (i := 88) (by decide +kernel) rfl)
  | 14, _ => exact (zt4 (i := 90) (by decide +kernel) rfl)
  | 15, _ => exact (zt4 (i := 92) (by decide +kernel) rfl)
  | 16, _ => exact (zt4 (i := 94) (by decide +kernel) rfl)
  | 17, _ => exact (zt4 (i := 96) (by decide +kernel) rfl)
  | 18, _ => exact (zt4 (i := 98) (by decide +kernel) rfl)
  | 19, _ => exact (zt4 (i := 100) (by decide +kernel) rfl)
  | 20, _ => exact (zt4 (i := 102) (by decide +kernel) rfl)
  | 21, _ => exact (zt4 (i := 104) (by decide +kernel) rfl)
  | 22, _ => exact (zt4 (i := 106) (by decide +kernel) rfl)
  | 23, _ => exact (zt4 (i := 108) (by decide +kernel) rfl)
  | 24, _ => exact (zt4 (i := 110) (by decide +kernel) rfl)
  | 25, _ => exact (zt4 (i := 112) (by decide +kernel) rfl)
  | 26, _ => exact (zt4 (i := 114) (by decide +kernel) rfl)
  | 27, _ => exact (zt4 (i := 116) (by decide +kernel) rfl)
  | 28, _ => exact (zt4 (i := 118) (by decide +kernel) rfl)
  | 29, _ => exact (zt4 (i := 120) (by decide +kernel) rfl)
  | 30, _ => exact (zt4 (i := 122) (by decide +kernel) rfl)
  | k + 31, hk => exact absurd hk (by omega)
theorem fX5_9 : zFl RX5 9 5 0 (.array .byte) true := ⟨RX5, TX5, 5, tyX5, rfl, zlX5, ⟨tyX5_ok, nmX5⟩, by decide, rfl, rfl, rfl, Or.inl (zt1 (i := 29) (by decide +kernel) rfl)⟩
theorem fX5_15 : zFl RX5 15 5 1 .int false := ⟨RX5, TX5, 5, tyX5, rfl, zlX5, ⟨tyX5_ok, nmX5⟩, by decide, rfl, rfl, rfl, Or.inl (zt1 (i := 30) (by decide +kernel) rfl)⟩
theorem fX5_19 : zFl RX5 19 5 2 .int false := ⟨RX5, TX5, 5, tyX5, rfl, zlX5, ⟨tyX5_ok, nmX5⟩, by decide, rfl, rfl, rfl, Or.inl (zt1 (i := 32) (by decide +kernel) rfl)⟩
theorem fX5_22 : zFl RX5 22 5 3 .int false := ⟨RX5, TX5, 5, tyX5, rfl, zlX5, ⟨tyX5_ok, nmX5⟩, by decide, rfl, rfl, rfl, Or.inl (zt1 (i := 35) (by decide +kernel) rfl)⟩
theorem fX5_25 : zFl RX5 25 5 4 .int false := ⟨RX5, TX5, 5, tyX5, rfl, zlX5, ⟨tyX5_ok, nmX5⟩, by decide, rfl, rfl, rfl, Or.inl (zt1 (i := 37) (by decide +kernel) rfl)⟩
theorem fX1_9 : zFl RX1 9 1 0 (.array .int) true := ⟨RX1, TX1, 2, tyX1, rfl, zlX1, ⟨tyX1_ok, nmX1⟩, by decide, rfl, rfl, rfl, Or.inl (zt1 (i := 57) (by decide +kernel) rfl)⟩
theorem fX1_15 : zFl RX1 15 1 1 .int false := ⟨RX1, TX1, 2, tyX1, rfl, zlX1, ⟨tyX1_ok, nmX1⟩, by decide, rfl, rfl, rfl, Or.inl (zt1 (i := 59) (by decide +kernel) rfl)⟩
theorem fX3_9 : zFl RX3 9 3 0 .int false := ⟨RX3, TX3, 16, tyX3, rfl, zlX3, ⟨tyX3_ok, nmX3⟩, by decide, rfl, rfl, rfl, Or.inl (zt1 (i := 74) (by decide +kernel) rfl)⟩
theorem fX3_15 : zFl RX3 15 3 1 .int false := ⟨RX3, TX3, 16, tyX3, rfl, zlX3, ⟨tyX3_ok, nmX3⟩, by decide, rfl, rfl, rfl, Or.inl (zt1 (i := 76) (by decide +kernel) rfl)⟩
theorem fX3_18 : zFl RX3 18 3 2 .int false := ⟨RX3, TX3, 16, tyX3, rfl, zlX3, ⟨tyX3_ok, nmX3⟩, by decide, rfl, rfl, rfl, Or.inl (zt1 (i := 79) (by decide +kernel) rfl)⟩
theorem fX3_21 : zFl RX3 21 3 3 .int false := ⟨RX3, TX3, 16, tyX3, rfl, zlX3, ⟨tyX3_ok, nmX3⟩, by decide, rfl, rfl, rfl, Or.inl (zt1 (i := 81) (by decide +kernel) rfl)⟩
theorem fX3_24 : zFl RX3 24 3 4 (.array .int) true := ⟨RX3, TX3, 16, tyX3, rfl, zlX3, ⟨tyX3_ok, nmX3⟩, by decide, rfl, rfl, rfl, Or.inl (zt1 (i := 83) (by decide +kernel) rfl)⟩
theorem fX3_28 : zFl RX3 28 3 5 (.array .int) true := ⟨RX3, TX3, 16, tyX3, rfl, zlX3, ⟨tyX3_ok, nmX3⟩, by decide, rfl, rfl, rfl, Or.inl (zt1 (i := 85) (by decide +kernel) rfl)⟩
theorem fX3_31 : zFl RX3 31 3 6 (.array .int) true := ⟨RX3, TX3, 16, tyX3, rfl, zlX3, ⟨tyX3_ok, nmX3⟩, by decide, rfl, rfl, rfl, Or.inl (zt1 (i := 87) (by decide +kernel) rfl)⟩
theorem fX3_34 : zFl RX3 34 3 7 (.array .int) true := ⟨RX3, TX3, 16, tyX3, rfl, zlX3, ⟨tyX3_ok, nmX3⟩, by decide, rfl, rfl, rfl, Or.inl (zt1 (i := 89) (by decide +kernel) rfl)⟩
theorem fX3_37 : zFl RX3 37 3 8 (.array .int) true := ⟨RX3, TX3, 16, tyX3, rfl, zlX3, ⟨tyX3_ok, nmX3⟩, by decide, rfl, rfl, rfl, Or.inl (zt1 (i := 92) (by decide +kernel) rfl)⟩
theorem fX3_40 : zFl RX3 40 3 9 (.array .int) true := ⟨RX3, TX3, 16, tyX3, rfl, zlX3, ⟨tyX3_ok, nmX3⟩, by decide, rfl, rfl, rfl, Or.inl (zt1 (i := 94) (by decide +kernel) rfl)⟩
theorem fX3_43 : zFl RX3 43 3 10 (.array .int) true := ⟨RX3, TX3, 16, tyX3, rfl, zlX3, ⟨tyX3_ok, nmX3⟩, by decide, rfl, rfl, rfl, Or.inl (zt1 (i := 96) (by decide +kernel) rfl)⟩
theorem fX3_46 : zFl RX3 46 3 11 (.array .int) true := ⟨RX3, TX3, 16, tyX3, rfl, zlX3, ⟨tyX3_ok, nmX3⟩, by decide, rfl, rfl, rfl, Or.inl (zt1 (i := 99) (by decide +kernel) rfl)⟩
theorem fX3_49 : zFl RX3 49 3 12 (.array .int) true := ⟨RX3, TX3, 16, tyX3, rfl, zlX3, ⟨tyX3_ok, nmX3⟩, by decide, rfl, rfl, rfl, Or.inl (zt1 (i := 102) (by decide +kernel) rfl)⟩
theorem fX3_52 : zFl RX3 52 3 13 .int false := ⟨RX3, TX3, 16, tyX3, rfl, zlX3, ⟨tyX3_ok, nmX3⟩, by decide, rfl, rfl, rfl, Or.inl (zt1 (i := 105) (by decide +kernel) rfl)⟩
theorem fX3_55 : zFl RX3 55 3 14 .int false := ⟨RX3, TX3, 16, tyX3, rfl, zlX3, ⟨tyX3_ok, nmX3⟩, by decide, rfl, rfl, rfl, Or.inl (zt1 (i := 107) (by decide +kernel) rfl)⟩
theorem fX3_58 : zFl RX3 58 3 15 .int false := ⟨RX3, TX3, 16, tyX3, rfl, zlX3, ⟨tyX3_ok, nmX3⟩, by decide, rfl, rfl, rfl, Or.inl (zt1 (i := 109) (by decide +kernel) rfl)⟩
theorem fX0_9 : zFl RX0 9 0 0 (.array .int) true := ⟨RX0, TX0, 3, tyX0, rfl, zlX0, ⟨tyX0_ok, nmX0⟩, by decide, rfl, rfl, rfl, Or.inl (zt1 (i := 150) (by decide +kernel) rfl)⟩
theorem fX0_15 : zFl RX0 15 0 1 (.array .int) true := ⟨RX0, TX0, 3, tyX0, rfl, zlX0, ⟨tyX0_ok, nmX0⟩, by decide, rfl, rfl, rfl, Or.inl (zt1 (i := 152) (by decide +kernel) rfl)⟩
theorem fX0_18 : zFl RX0 18 0 2 .int false := ⟨RX0, TX0, 3, tyX0, rfl, zlX0, ⟨tyX0_ok, nmX0⟩, by decide, rfl, rfl, rfl, Or.inl (zt1 (i := 154) (by decide +kernel) rfl)⟩
theorem fX4_9 : zFl RX4 9 4 0 (.array .int) true := ⟨RX4, TX4, 6, tyX4, rfl, zlX4, ⟨tyX4_ok, nmX4⟩, by decide, rfl, rfl, rfl, Or.inl (zt1 (i := 169) (by decide +kernel) rfl)⟩
theorem fX4_15 : zFl RX4 15 4 1 (.array .int) true := ⟨RX4, TX4, 6, tyX4, rfl, zlX4, ⟨tyX4_ok, nmX4⟩, by decide, rfl, rfl, rfl, Or.inl (zt1 (i := 170) (by decide +kernel) rfl)⟩
theorem fX4_18 : zFl RX4 18 4 2 (.array .int) true := ⟨RX4, TX4, 6, tyX4, rfl, zlX4, ⟨tyX4_ok, nmX4⟩, by decide, rfl, rfl, rfl, Or.inl (zt1 (i := 171) (by decide +kernel) rfl)⟩
theorem fX4_21 : zFl RX4 21 4 3 (.array .int) true := ⟨RX4, TX4, 6, tyX4, rfl, zlX4, ⟨tyX4_ok, nmX4⟩, by decide, rfl, rfl, rfl, Or.inl (zt1 (i := 172) (by decide +kernel) rfl)⟩
theorem fX4_24 : zFl RX4 24 4 4 .int false := ⟨RX4, TX4, 6, tyX4, rfl, zlX4, ⟨tyX4_ok, nmX4⟩, by decide, rfl, rfl, rfl, Or.inl (zt1 (i := 174) (by decide +kernel) rfl)⟩
theorem fX4_28 : zFl RX4 28 4 5 .boolean false := ⟨RX4, TX4, 6, tyX4, rfl, zlX4, ⟨tyX4_ok, nmX4⟩, by decide, rfl, rfl, rfl, Or.inl (zt1 (i := 176) (by decide +kernel) rfl)⟩
theorem fX2_9 : zFl RX2 9 2 0 (.array .int) true := ⟨RX2, TX2, 1, tyX2, rfl, zlX2, ⟨tyX2_ok, nmX2⟩, by decide, rfl, rfl, rfl, Or.inl (zt1 (i := 197) (by decide +kernel) rfl)⟩
theorem fX6_10 : zFl RX6 10 6 0 (.object "LoftGraves$Text") true := ⟨RX6, TX6, 12, tyX6, rfl, zlX6, ⟨tyX6_ok, nmX6⟩, by decide, rfl, rfl, rfl, Or.inl (zt1 (i := 219) (by decide +kernel) rfl)⟩
theorem fX6_19 : zFl RX6 19 6 1 (.object "LoftGraves$Custom") true := ⟨RX6, TX6, 12, tyX6, rfl, zlX6, ⟨tyX6_ok, nmX6⟩, by decide, rfl, rfl, rfl, Or.inl (zt1 (i := 220) (by decide +kernel) rfl)⟩
theorem fX6_23 : zFl RX6 23 6 2 (.object "LoftGraves$Custom") true := ⟨RX6, TX6, 12, tyX6, rfl, zlX6, ⟨tyX6_ok, nmX6⟩, by decide, rfl, rfl, rfl, Or.inl (zt1 (i := 221) (by decide +kernel) rfl)⟩
theorem fX6_29 : zFl RX6 29 6 3 (.object "LoftGraves$Parish") true := ⟨RX6, TX6, 12, tyX6, rfl, zlX6, ⟨tyX6_ok, nmX6⟩, by decide, rfl, rfl, rfl, Or.inl (zt1 (i := 222) (by decide +kernel) rfl)⟩
theorem fX6_33 : zFl RX6 33 6 4 (.object "LoftGraves$Parish") true := ⟨RX6, TX6, 12, tyX6, rfl, zlX6, ⟨tyX6_ok, nmX6⟩, by decide, rfl, rfl, rfl, Or.inl (zt1 (i := 223) (by decide +kernel) rfl)⟩
theorem fX6_36 : zFl RX6 36 6 5 (.object "LoftGraves$Parish") true := ⟨RX6, TX6, 12, tyX6, rfl, zlX6, ⟨tyX6_ok, nmX6⟩, by decide, rfl, rfl, rfl, Or.inl (zt1 (i := 224) (by decide +kernel) rfl)⟩
theorem fX6_39 : zFl RX6 39 6 6 (.object "LoftGraves$Parish") true := ⟨RX6, TX6, 12, tyX6, rfl, zlX6, ⟨tyX6_ok, nmX6⟩, by decide, rfl, rfl, rfl, Or.inl (zt1 (i := 225) (by decide +kernel) rfl)⟩
theorem fX6_42 : zFl RX6 42 6 7 .boolean false := ⟨RX6, TX6, 12, tyX6, rfl, zlX6, ⟨tyX6_ok, nmX6⟩, by decide, rfl, rfl, rfl, Or.inl (zt1 (i := 226) (by decide +kernel) rfl)⟩
theorem fX6_46 : zFl RX6 46 6 8 .boolean false := ⟨RX6, TX6, 12, tyX6, rfl, zlX6, ⟨tyX6_ok, nmX6⟩, by decide, rfl, rfl, rfl, Or.inl (zt1 (i := 227) (by decide +kernel) rfl)⟩
theorem fX6_52 : zFl RX6 52 6 9 (.object "LoftGraves$Book") true := ⟨RX6, TX6, 12, tyX6, rfl, zlX6, ⟨tyX6_ok, nmX6⟩, by decide, rfl, rfl, rfl, Or.inl (zt1 (i := 228) (by decide +kernel) rfl)⟩
theorem fX6_59 : zFl RX6 59 6 10 (.object "LoftGraves$Plan") true := ⟨RX6, TX6, 12, tyX6, rfl, zlX6, ⟨tyX6_ok, nmX6⟩, by decide, rfl, rfl, rfl, Or.inl (zt1 (i := 229) (by decide +kernel) rfl)⟩
theorem fX6_66 : zFl RX6 66 6 11 (.object "LoftGraves$Naming") true := ⟨RX6, TX6, 12, tyX6, rfl, zlX6, ⟨tyX6_ok, nmX6⟩, by decide, rfl, rfl, rfl, Or.inl (zt1 (i := 230) (by decide +kernel) rfl)⟩
theorem fX7_7 : zFl RX7 7 7 0 (.array .int) true := ⟨RX7, TX7, 31, tyX7, rfl, zlX7, ⟨tyX7_ok, nmX7⟩, by decide, rfl, rfl, rfl, Or.inl (zt4 (i := 31) (by decide +kernel) rfl)⟩
theorem fX7_13 : zFl RX7 13 7 1 (.array .boolean) true := ⟨RX7, TX7, 31, tyX7, rfl, zlX7, ⟨tyX7_ok, nmX7⟩, by decide, rfl, rfl, rfl, Or.inl (zt4 (i := 32) (by decide +kernel) rfl)⟩
theorem fX7_17 : zFl RX7 17 7 2 .int false := ⟨RX7, TX7, 31, tyX7, rfl, zlX7, ⟨tyX7_ok, nmX7⟩, by decide, rfl, rfl, rfl, Or.inl (zt4 (i := 33) (by decide +kernel) rfl)⟩
theorem fX7_21 : zFl RX7 21 7 3 .int false := ⟨RX7, TX7, 31, tyX7, rfl, zlX7, ⟨tyX7_ok, nmX7⟩, by decide, rfl, rfl, rfl, Or.inl (zt4 (i := 34) (by decide +kernel) rfl)⟩
theorem fX7_24 : zFl RX7 24 7 4 (.array .int) true := ⟨RX7, TX7, 31, tyX7, rfl, zlX7, ⟨tyX7_ok, nmX7⟩, by decide, rfl, rfl, rfl, Or.inl (zt4 (i := 35) (by decide +kernel) rfl)⟩
theorem fX7_27 : zFl RX7 27 7 5 (.array .int) true := ⟨RX7, TX7, 31, tyX7, rfl, zlX7, ⟨tyX7_ok, nmX7⟩, by decide, rfl, rfl, rfl, Or.inl (zt4 (i := 36) (by decide +kernel) rfl)⟩
theorem fX7_30 : zFl RX7 30 7 6 (.array .int) true := ⟨RX7, TX7, 31, tyX7, rfl, zlX7, ⟨tyX7_ok, nmX7⟩, by decide, rfl, rfl, rfl, Or.inl (zt4 (i := 37) (by decide +kernel) rfl)⟩
theorem fX7_33 : zFl RX7 33 7 7 (.array .int) true := ⟨RX7, TX7, 31, tyX7, rfl, zlX7, ⟨tyX7_ok, nmX7⟩, by decide, rfl, rfl, rfl, Or.inl (zt4 (i := 38) (by decide +kernel) rfl)⟩
theorem fX7_36 : zFl RX7 36 7 8 (.array .int) true := ⟨RX7, TX7, 31, tyX7, rfl, zlX7, ⟨tyX7_ok, nmX7⟩, by decide, rfl, rfl, rfl, Or.inl (zt4 (i := 39) (by decide +kernel) rfl)⟩
theorem fX7_39 : zFl RX7 39 7 9 (.array .int) true := ⟨RX7, TX7, 31, tyX7, rfl, zlX7, ⟨tyX7_ok, nmX7⟩, by decide, rfl, rfl, rfl, Or.inl (zt4 (i := 40) (by decide +kernel) rfl)⟩
theorem fX7_72 : zFl RX7 72 7 10 .int false := ⟨RX7, TX7, 31, tyX7, rfl, zlX7, ⟨tyX7_ok, nmX7⟩, by decide, rfl, rfl, rfl, Or.inl (zt4 (i := 41) (by decide +kernel) rfl)⟩
theorem fX7_42 : zFl RX7 42 7 11 (.array .int) true := ⟨RX7, TX7, 31, tyX7, rfl, zlX7, ⟨tyX7_ok, nmX7⟩, by decide, rfl, rfl, rfl, Or.inl (zt4 (i := 42) (by decide +kernel) rfl)⟩
theorem fX7_82 : zFl RX7 82 7 12 .int false := ⟨RX7, TX7, 31, tyX7, rfl, zlX7, ⟨tyX7_ok, nmX7⟩, by decide, rfl, rfl, rfl, Or.inl (zt4 (i := 43) (by decide +kernel) rfl)⟩
theorem fX7_88 : zFl RX7 88 7 13 .int false := ⟨RX7, TX7, 31, tyX7, rfl, zlX7, ⟨tyX7_ok, nmX7⟩, by decide, rfl, rfl, rfl, Or.inl (zt4 (i := 44) (by decide +kernel) rfl)⟩
theorem fX7_98 : zFl RX7 98 7 14 .int false := ⟨RX7, TX7, 31, tyX7, rfl, zlX7, ⟨tyX7_ok, nmX7⟩, by decide, rfl, rfl, rfl, Or.inl (zt4 (i := 45) (by decide +kernel) rfl)⟩
theorem fX7_105 : zFl RX7 105 7 15 .int false := ⟨RX7, TX7, 31, tyX7, rfl, zlX7, ⟨tyX7_ok, nmX7⟩, by decide, rfl, rfl, rfl, Or.inl (zt4 (i := 46) (by decide +kernel) rfl)⟩
theorem fX7_91 : zFl RX7 91 7 16 .int false := ⟨RX7, TX7, 31, tyX7, rfl, zlX7, ⟨tyX7_ok, nmX7⟩, by decide, rfl, rfl, rfl, Or.inl (zt4 (i := 47) (by decide +kernel) rfl)⟩
theorem fX7_45 : zFl RX7 45 7 17 .int false := ⟨RX7, TX7, 31, tyX7, rfl, zlX7, ⟨tyX7_ok, nmX7⟩, by decide, rfl, rfl, rfl, Or.inl (zt4 (i := 48) (by decide +kernel) rfl)⟩
theorem fX7_124 : zFl RX7 124 7 18 .boolean false := ⟨RX7, TX7, 31, tyX7, rfl, zlX7, ⟨tyX7_ok, nmX7⟩, by decide, rfl, rfl, rfl, Or.inl (zt4 (i := 49) (by decide +kernel) rfl)⟩
theorem fX7_132 : zFl RX7 132 7 19 .int false := ⟨RX7, TX7, 31, tyX7, rfl, zlX7, ⟨tyX7_ok, nmX7⟩, by decide, rfl, rfl, rfl, Or.inl (zt4 (i := 50) (by decide +kernel) rfl)⟩
theorem fX7_135 : zFl RX7 135 7 20 .int false := ⟨RX7, TX7, 31, tyX7, rfl, zlX7, ⟨tyX7_ok, nmX7⟩, by decide, rfl, rfl, rfl, Or.inl (zt4 (i := 51) (by decide +kernel) rfl)⟩
theorem fX7_48 : zFl RX7 48 7 21 (.array .int) true := ⟨RX7, TX7, 31, tyX7, rfl, zlX7, ⟨tyX7_ok, nmX7⟩, by decide, rfl, rfl, rfl, Or.inl (zt4 (i := 52) (by decide +kernel) rfl)⟩
theorem fX7_51 : zFl RX7 51 7 22 (.array .int) true := ⟨RX7, TX7, 31, tyX7, rfl, zlX7, ⟨tyX7_ok, nmX7⟩, by decide, rfl, rfl, rfl, Or.inl (zt4 (i := 53) (by decide +kernel) rfl)⟩
theorem fX7_54 : zFl RX7 54 7 23 (.array .int) true := ⟨RX7, TX7, 31, tyX7, rfl, zlX7, ⟨tyX7_ok, nmX7⟩, by decide, rfl, rfl, rfl, Or.inl (zt4 (i := 54) (by decide +kernel) rfl)⟩
theorem fX7_57 : zFl RX7 57 7 24 (.array .int) true := ⟨RX7, TX7, 31, tyX7, rfl, zlX7, ⟨tyX7_ok, nmX7⟩, by decide, rfl, rfl, rfl, Or.inl (zt4 (i := 55) (by decide +kernel) rfl)⟩
theorem fX7_261 : zFl RX7 261 7 25 .int false := ⟨RX7, TX7, 31, tyX7, rfl, zlX7, ⟨tyX7_ok, nmX7⟩, by decide, rfl, rfl, rfl, Or.inl (zt4 (i := 56) (by decide +kernel) rfl)⟩
theorem fX7_60 : zFl RX7 60 7 26 (.array .int) true := ⟨RX7, TX7, 31, tyX7, rfl, zlX7, ⟨tyX7_ok, nmX7⟩, by decide, rfl, rfl, rfl, Or.inl (zt4 (i := 57) (by decide +kernel) rfl)⟩
theorem fX7_63 : zFl RX7 63 7 27 (.array .int) true := ⟨RX7, TX7, 31, tyX7, rfl, zlX7, ⟨tyX7_ok, nmX7⟩, by decide, rfl, rfl, rfl, Or.inl (zt4 (i := 58) (by decide +kernel) rfl)⟩
theorem fX7_66 : zFl RX7 66 7 28 (.array .int) true := ⟨RX7, TX7, 31, tyX7, rfl, zlX7, ⟨tyX7_ok, nmX7⟩, by decide, rfl, rfl, rfl, Or.inl (zt4 (i := 59) (by decide +kernel) rfl)⟩
theorem fX7_69 : zFl RX7 69 7 29 (.array .int) true := ⟨RX7, TX7, 31, tyX7, rfl, zlX7, ⟨tyX7_ok, nmX7⟩, by decide, rfl, rfl, rfl, Or.inl (zt4 (i := 60) (by decide +kernel) rfl)⟩
theorem fX7_147 : zFl RX7 147 7 30 .int false := ⟨RX7, TX7, 31, tyX7, rfl, zlX7, ⟨tyX7_ok, nmX7⟩, by decide, rfl, rfl, rfl, Or.inl (zt4 (i := 61) (by decide +kernel) rfl)⟩
theorem fX6_78 : zFl RX6 78 5 1 .int false := ⟨RX5, TX5, 5, tyX5, rfl, zlX5, ⟨tyX5_ok, nmX5⟩, by decide, rfl, rfl, rfl, Or.inr ⟨"LoftGraves", (List.mem_of_getElem? (i := 1) (by decide +kernel))⟩⟩
theorem fX3_78 : zFl RX3 78 5 2 .int false := ⟨RX5, TX5, 5, tyX5, rfl, zlX5, ⟨tyX5_ok, nmX5⟩, by decide, rfl, rfl, rfl, Or.inr ⟨"LoftGraves", (List.mem_of_getElem? (i := 2) (by decide +kernel))⟩⟩
theorem fX1_44 : zFl RX1 44 5 2 .int false := ⟨RX5, TX5, 5, tyX5, rfl, zlX5, ⟨tyX5_ok, nmX5⟩, by decide, rfl, rfl, rfl, Or.inr ⟨"LoftGraves", (List.mem_of_getElem? (i := 3) (by decide +kernel))⟩⟩
theorem fX6_90 : zFl RX6 90 5 3 .int false := ⟨RX5, TX5, 5, tyX5, rfl, zlX5, ⟨tyX5_ok, nmX5⟩, by decide, rfl, rfl, rfl, Or.inr ⟨"LoftGraves", (List.mem_of_getElem? (i := 4) (by decide +kernel))⟩⟩
theorem fX6_111 : zFl RX6 111 5 4 .int false := ⟨RX5, TX5, 5, tyX5, rfl, zlX5, ⟨tyX5_ok, nmX5⟩, by decide, rfl, rfl, rfl, Or.inr ⟨"LoftGraves", (List.mem_of_getElem? (i := 5) (by decide +kernel))⟩⟩
theorem fX3_149 : zFl RX3 149 1 0 (.array .int) true := ⟨RX1, TX1, 2, tyX1, rfl, zlX1, ⟨tyX1_ok, nmX1⟩, by decide, rfl, rfl, rfl, Or.inr ⟨"LoftGraves", (List.mem_of_getElem? (i := 7) (by decide +kernel))⟩⟩
theorem fX6_110 : zFl RX6 110 1 1 .int false := ⟨RX1, TX1, 2, tyX1, rfl, zlX1, ⟨tyX1_ok, nmX1⟩, by decide, rfl, rfl, rfl, Or.inr ⟨"LoftGraves", (List.mem_of_getElem? (i := 8) (by decide +kernel))⟩⟩
theorem fX3_142 : zFl RX3 142 1 1 .int false := ⟨RX1, TX1, 2, tyX1, rfl, zlX1, ⟨tyX1_ok, nmX1⟩, by decide, rfl, rfl, rfl, Or.inr ⟨"LoftGraves", (List.mem_of_getElem? (i := 9) (by decide +kernel))⟩⟩
theorem fX6_114 : zFl RX6 114 3 0 .int false := ⟨RX3, TX3, 16, tyX3, rfl, zlX3, ⟨tyX3_ok, nmX3⟩, by decide, rfl, rfl, rfl, Or.inr ⟨"LoftGraves", (List.mem_of_getElem? (i := 11) (by decide +kernel))⟩⟩
theorem fX2_15 : zFl RX2 15 3 1 .int false := ⟨RX3, TX3, 16, tyX3, rfl, zlX3, ⟨tyX3_ok, nmX3⟩, by decide, rfl, rfl, rfl, Or.inr ⟨"LoftGraves", (List.mem_of_getElem? (i := 12) (by decide +kernel))⟩⟩
theorem fX6_103 : zFl RX6 103 3 1 .int false := ⟨RX3, TX3, 16, tyX3, rfl, zlX3, ⟨tyX3_ok, nmX3⟩, by decide, rfl, rfl, rfl, Or.inr ⟨"LoftGraves", (List.mem_of_getElem? (i := 13) (by decide +kernel))⟩⟩
theorem fX6_117 : zFl RX6 117 3 2 .int false := ⟨RX3, TX3, 16, tyX3, rfl, zlX3, ⟨tyX3_ok, nmX3⟩, by decide, rfl, rfl, rfl, Or.inr ⟨"LoftGraves", (List.mem_of_getElem? (i := 14) (by decide +kernel))⟩⟩
theorem fX6_120 : zFl RX6 120 3 3 .int false := ⟨RX3, TX3, 16, tyX3, rfl, zlX3, ⟨tyX3_ok, nmX3⟩, by decide, rfl, rfl, rfl, Or.inr ⟨"LoftGraves", (List.mem_of_getElem? (i := 15) (by decide +kernel))⟩⟩
theorem fX6_138 : zFl RX6 138 3 4 (.array .int) true := ⟨RX3, TX3, 16, tyX3, rfl, zlX3, ⟨tyX3_ok, nmX3⟩, by decide, rfl, rfl, rfl, Or.inr ⟨"LoftGraves", (List.mem_of_getElem? (i := 16) (by decide +kernel))⟩⟩
theorem fX6_153 : zFl RX6 153 3 5 (.array .int) true := ⟨RX3, TX3, 16, tyX3, rfl, zlX3, ⟨tyX3_ok, nmX3⟩, by decide, rfl, rfl, rfl, Or.inr ⟨"LoftGraves", (List.mem_of_getElem? (i := 17) (by decide +kernel))⟩⟩
theorem fX6_156 : zFl RX6 156 3 6 (.array .int) true := ⟨RX3, TX3, 16, tyX3, rfl, zlX3, ⟨tyX3_ok, nmX3⟩, by decide, rfl, rfl, rfl, Or.inr ⟨"LoftGraves", (List.mem_of_getElem? (i := 18) (by decide +kernel))⟩⟩
theorem fX4_57 : zFl RX4 57 3 7 (.array .int) true := ⟨RX3, TX3, 16, tyX3, rfl, zlX3, ⟨tyX3_ok, nmX3⟩, by decide, rfl, rfl, rfl, Or.inr ⟨"LoftGraves", (List.mem_of_getElem? (i := 19) (by decide +kernel))⟩⟩
theorem fX6_159 : zFl RX6 159 3 7 (.array .int) true := ⟨RX3, TX3, 16, tyX3, rfl, zlX3, ⟨tyX3_ok, nmX3⟩, by decide, rfl, rfl, rfl, Or.inr ⟨"LoftGraves", (List.mem_of_getElem? (i := 20) (by decide +kernel))⟩⟩
theorem fX6_162 : zFl RX6 162 3 8 (.array .int) true := ⟨RX3, TX3, 16, tyX3, rfl, zlX3, ⟨tyX3_ok, nmX3⟩, by decide, rfl, rfl, rfl, Or.inr ⟨"LoftGraves", (List.mem_of_getElem? (i := 21) (by decide +kernel))⟩⟩
theorem fX6_165 : zFl RX6 165 3 9 (.array .int) true := ⟨RX3, TX3, 16, tyX3, rfl, zlX3, ⟨tyX3_ok, nmX3⟩, by decide, rfl, rfl, rfl, Or.inr ⟨"LoftGraves", (List.mem_of_getElem? (i := 22) (by decide +kernel))⟩⟩
theorem fX4_42 : zFl RX4 42 3 10 (.array .int) true := ⟨RX3, TX3, 16, tyX3, rfl, zlX3, ⟨tyX3_ok, nmX3⟩, by decide, rfl, rfl, rfl, Or.inr ⟨"LoftGraves", (List.mem_of_getElem? (i := 23) (by decide +kernel))⟩⟩
theorem fX6_168 : zFl RX6 168 3 10 (.array .int) true := ⟨RX3, TX3, 16, tyX3, rfl, zlX3, ⟨tyX3_ok, nmX3⟩, by decide, rfl, rfl, rfl, Or.inr ⟨"LoftGraves", (List.mem_of_getElem? (i := 24) (by decide +kernel))⟩⟩
theorem fX2_58 : zFl RX2 58 3 11 (.array .int) true := ⟨RX3, TX3, 16, tyX3, rfl, zlX3, ⟨tyX3_ok, nmX3⟩, by decide, rfl, rfl, rfl, Or.inr ⟨"LoftGraves", (List.mem_of_getElem? (i := 25) (by decide +kernel))⟩⟩
theorem fX6_178 : zFl RX6 178 3 11 (.array .int) true := ⟨RX3, TX3, 16, tyX3, rfl, zlX3, ⟨tyX3_ok, nmX3⟩, by decide, rfl, rfl, rfl, Or.inr ⟨"LoftGraves", (List.mem_of_getElem? (i := 26) (by decide +kernel))⟩⟩
theorem fX2_29 : zFl RX2 29 3 12 (.array .int) true := ⟨RX3, TX3, 16, tyX3, rfl, zlX3, ⟨tyX3_ok, nmX3⟩, by decide, rfl, rfl, rfl, Or.inr ⟨"LoftGraves", (List.mem_of_getElem? (i := 27) (by decide +kernel))⟩⟩
theorem fX6_181 : zFl RX6 181 3 12 (.array .int) true := ⟨RX3, TX3, 16, tyX3, rfl, zlX3, ⟨tyX3_ok, nmX3⟩, by decide, rfl, rfl, rfl, Or.inr ⟨"LoftGraves", (List.mem_of_getElem? (i := 28) (by decide +kernel))⟩⟩
theorem fX6_171 : zFl RX6 171 3 13 .int false := ⟨RX3, TX3, 16, tyX3, rfl, zlX3, ⟨tyX3_ok, nmX3⟩, by decide, rfl, rfl, rfl, Or.inr ⟨"LoftGraves", (List.mem_of_getElem? (i := 29) (by decide +kernel))⟩⟩
theorem fX6_130 : zFl RX6 130 3 14 .int false := ⟨RX3, TX3, 16, tyX3, rfl, zlX3, ⟨tyX3_ok, nmX3⟩, by decide, rfl, rfl, rfl, Or.inr ⟨"LoftGraves", (List.mem_of_getElem? (i := 30) (by decide +kernel))⟩⟩
theorem fX6_93 : zFl RX6 93 3 15 .int false := ⟨RX3, TX3, 16, tyX3, rfl, zlX3, ⟨tyX3_ok, nmX3⟩, by decide, rfl, rfl, rfl, Or.inr ⟨"LoftGraves", (List.mem_of_getElem? (i := 31) (by decide +kernel))⟩⟩
theorem fX6_295 : zFl RX6 295 0 0 (.array .int) true := ⟨RX0, TX0, 3, tyX0, rfl, zlX0, ⟨tyX0_ok, nmX0⟩, by decide, rfl, rfl, rfl, Or.inr ⟨"LoftGraves", (List.mem_of_getElem? (i := 33) (by decide +kernel))⟩⟩
theorem fX6_298 : zFl RX6 298 0 1 (.array .int) true := ⟨RX0, TX0, 3, tyX0, rfl, zlX0, ⟨tyX0_ok, nmX0⟩, by decide, rfl, rfl, rfl, Or.inr ⟨"LoftGraves", (List.mem_of_getElem? (i := 34) (by decide +kernel))⟩⟩
theorem fX6_100 : zFl RX6 100 0 2 .int false := ⟨RX0, TX0, 3, tyX0, rfl, zlX0, ⟨tyX0_ok, nmX0⟩, by decide, rfl, rfl, rfl, Or.inr ⟨"LoftGraves", (List.mem_of_getElem? (i := 35) (by decide +kernel))⟩⟩
theorem fX6_261 : zFl RX6 261 4 3 (.array .int) true := ⟨RX4, TX4, 6, tyX4, rfl, zlX4, ⟨tyX4_ok, nmX4⟩, by decide, rfl, rfl, rfl, Or.inr ⟨"LoftGraves", (List.mem_of_getElem? (i := 37) (by decide +kernel))⟩⟩
theorem fX6_258 : zFl RX6 258 4 4 .int false := ⟨RX4, TX4, 6, tyX4, rfl, zlX4, ⟨tyX4_ok, nmX4⟩, by decide, rfl, rfl, rfl, Or.inr ⟨"LoftGraves", (List.mem_of_getElem? (i := 38) (by decide +kernel))⟩⟩
theorem fX6_255 : zFl RX6 255 4 5 .boolean false := ⟨RX4, TX4, 6, tyX4, rfl, zlX4, ⟨tyX4_ok, nmX4⟩, by decide, rfl, rfl, rfl, Or.inr ⟨"LoftGraves", (List.mem_of_getElem? (i := 39) (by decide +kernel))⟩⟩
theorem kL_9 : zCallI RL 9 MX6_init 0 := ⟨⟨(zt1 (i := 19) (by decide +kernel) rfl), (zt1 (i := 1) (by decide +kernel) rfl), ⟨by decide +kernel, by decide +kernel, by decide +kernel⟩, by decide, Or.inl (zt1 (i := 17) (by decide +kernel) rfl)⟩, (zt1 (i := 18) (by decide +kernel) rfl), rfl, rfl⟩
theorem oX6_1 : Cond.methodLink RX6 1 Lib.objectInit ∈ zT := (zt1 (i := 20) (by decide +kernel) rfl)
theorem oX5_3 : Cond.methodLink RX5 3 Lib.objectInit ∈ zT := (zt1 (i := 28) (by decide +kernel) rfl)
theorem oX1_3 : Cond.methodLink RX1 3 Lib.objectInit ∈ zT := (zt1 (i := 56) (by decide +kernel) rfl)
theorem oX3_3 : Cond.methodLink RX3 3 Lib.objectInit ∈ zT := (zt1 (i := 73) (by decide +kernel) rfl)
theorem oX0_3 : Cond.methodLink RX0 3 Lib.objectInit ∈ zT := (zt1 (i := 149) (by decide +kernel) rfl)
theorem oX4_3 : Cond.methodLink RX4 3 Lib.objectInit ∈ zT := (zt1 (i := 168) (by decide +kernel) rfl)
theorem oX2_3 : Cond.methodLink RX2 3 Lib.objectInit ∈ zT := (zt1 (i := 196) (by decide +kernel) rfl)
theorem kX6_199 : zCallS RX6 199 MX6_bit 1 := ⟨⟨(zt1 (i := 218) (by decide +kernel) rfl), (zt1 (i := 1) (by decide +kernel) rfl), ⟨by decide +kernel, by decide +kernel, by decide +kernel⟩, by decide, Or.inl (zt1 (i := 216) (by decide +kernel) rfl)⟩, (zt1 (i := 217) (by decide +kernel) rfl)⟩
theorem kL_15 : zCallV RL 15 MX6_feed 2 := ⟨⟨(zt2 (i := 19) (by decide +kernel) rfl), (zt1 (i := 1) (by decide +kernel) rfl), ⟨by decide +kernel, by decide +kernel, by decide +kernel⟩, by decide, Or.inl (zt2 (i := 16) (by decide +kernel) rfl)⟩, (zt2 (i := 17) (by decide +kernel) rfl), (zt2 (i := 18) (by decide +kernel) rfl)⟩
theorem kL_20 : zCallV RL 20 MX6_parish 0 := ⟨⟨(zt2 (i := 29) (by decide +kernel) rfl), (zt1 (i := 1) (by decide +kernel) rfl), ⟨by decide +kernel, by decide +kernel, by decide +kernel⟩, by decide, Or.inl (zt2 (i := 26) (by decide +kernel) rfl)⟩, (zt2 (i := 27) (by decide +kernel) rfl), (zt2 (i := 28) (by decide +kernel) rfl)⟩
theorem kX5_32 : zCallV RX5 32 MX5_skipBlanks 0 := ⟨⟨(zt2 (i := 45) (by decide +kernel) rfl), (zt1 (i := 2) (by decide +kernel) rfl), ⟨by decide +kernel, by decide +kernel, by decide +kernel⟩, by decide, Or.inl (zt2 (i := 42) (by decide +kernel) rfl)⟩, (zt2 (i := 44) (by decide +kernel) rfl), (ztp (i := 6) (by decide +kernel) rfl)⟩
theorem kX5_28 : zCallV RX5 28 MX5_byteAt 1 := ⟨⟨(zt2 (i := 49) (by decide +kernel) rfl), (zt1 (i := 2) (by decide +kernel) rfl), ⟨by decide +kernel, by decide +kernel, by decide +kernel⟩, by decide, Or.inl (zt2 (i := 46) (by decide +kernel) rfl)⟩, (zt2 (i := 48) (by decide +kernel) rfl), (ztp (i := 7) (by decide +kernel) rfl)⟩
theorem kX3_74 : zCallV RX3 74 MX3_readClause 1 := ⟨⟨(zt2 (i := 53) (by decide +kernel) rfl), (zt1 (i := 4) (by decide +kernel) rfl), ⟨by decide +kernel, by decide +kernel, by decide +kernel⟩, by decide, Or.inl (zt2 (i := 50) (by decide +kernel) rfl)⟩, (zt2 (i := 52) (by decide +kernel) rfl), (ztp (i := 8) (by decide +kernel) rfl)⟩
theorem kX5_35 : zCallV RX5 35 MJ0_length_8abf5 0 := ⟨⟨(zt2 (i := 62) (by decide +kernel) rfl), (zt1 (i := 9) (by decide +kernel) rfl), ⟨by decide +kernel, by decide +kernel, by decide +kernel⟩, by decide, Or.inl (zt2 (i := 59) (by decide +kernel) rfl)⟩, (zt2 (i := 60) (by decide +kernel) rfl), (zt2 (i := 61) (by decide +kernel) rfl)⟩
theorem kJ0_335 : zCallV RJ0 335 MJ0_coder_7d493 0 := ⟨⟨(zt2 (i := 66) (by decide +kernel) rfl), (zt1 (i := 9) (by decide +kernel) rfl), ⟨by decide +kernel, by decide +kernel, by decide +kernel⟩, by decide, Or.inl (zt2 (i := 63) (by decide +kernel) rfl)⟩, (zt2 (i := 64) (by decide +kernel) rfl), (zt2 (i := 65) (by decide +kernel) rfl)⟩
theorem kX5_40 : zCallV RX5 40 MJ0_charAt_5068e 1 := ⟨⟨(zt2 (i := 72) (by decide +kernel) rfl), (zt1 (i := 9) (by decide +kernel) rfl), ⟨by decide +kernel, by decide +kernel, by decide +kernel⟩, by decide, Or.inl (zt2 (i := 69) (by decide +kernel) rfl)⟩, (zt2 (i := 70) (by decide +kernel) rfl), (zt2 (i := 71) (by decide +kernel) rfl)⟩
theorem kJ0_492 : zCallV RJ0 492 MJ0_isLatin1_aae02 0 := ⟨⟨(zt2 (i := 76) (by decide +kernel) rfl), (zt1 (i := 9) (by decide +kernel) rfl), ⟨by decide +kernel, by decide +kernel, by decide +kernel⟩, by decide, Or.inl (zt2 (i := 73) (by decide +kernel) rfl)⟩, (zt2 (i := 74) (by decide +kernel) rfl), (zt2 (i := 75) (by decide +kernel) rfl)⟩
theorem kJ0_495 : zCallS RJ0 495 MJ1_charAt_3b067 2 := ⟨⟨(zt2 (i := 79) (by decide +kernel) rfl), (zt1 (i := 10) (by decide +kernel) rfl), ⟨by decide +kernel, by decide +kernel, by decide +kernel⟩, by decide, Or.inl (zt2 (i := 77) (by decide +kernel) rfl)⟩, (zt2 (i := 78) (by decide +kernel) rfl)⟩
theorem kJ1_9 : zCallS RJ1 9 MJ0_checkIndex_df160 2 := ⟨⟨(zt2 (i := 82) (by decide +kernel) rfl), (zt1 (i := 9) (by decide +kernel) rfl), ⟨by decide +kernel, by decide +kernel, by decide +kernel⟩, by decide, Or.inl (zt2 (i := 80) (by decide +kernel) rfl)⟩, (zt2 (i := 81) (by decide +kernel) rfl)⟩
theorem kJ0_1059 : zCallS RJ0 1059 MJ3_checkIndex_8e157 3 := ⟨⟨(zt2 (i := 87) (by decide +kernel) rfl), (zt1 (i := 11) (by decide +kernel) rfl), ⟨by decide +kernel, by decide +kernel, by decide +kernel⟩, by decide, Or.inl (zt2 (i := 85) (by decide +kernel) rfl)⟩, (zt2 (i := 86) (by decide +kernel) rfl)⟩
theorem kJ0_498 : zCallS RJ0 498 MJ2_charAt_3b067 2 := ⟨⟨(zt2 (i := 90) (by decide +kernel) rfl), (zt1 (i := 12) (by decide +kernel) rfl), ⟨by decide +kernel, by decide +kernel, by decide +kernel⟩, by decide, Or.inl (zt2 (i := 88) (by decide +kernel) rfl)⟩, (zt2 (i := 89) (by decide +kernel) rfl)⟩
theorem kJ2_67 : zCallS RJ2 67 MJ2_checkIndex_2214a 2 := ⟨⟨(zt2 (i := 93) (by decide +kernel) rfl), (zt1 (i := 12) (by decide +kernel) rfl), ⟨by decide +kernel, by decide +kernel, by decide +kernel⟩, by decide, Or.inl (zt2 (i := 91) (by decide +kernel) rfl)⟩, (zt2 (i := 92) (by decide +kernel) rfl)⟩
theorem kJ2_48 : zCallS RJ2 48 MJ2_length_9d52b 1 := ⟨⟨(zt2 (i := 96) (by decide +kernel) rfl), (zt1 (i := 12) (by decide +kernel) rfl), ⟨by decide +kernel, by decide +kernel, by decide +kernel⟩, by decide, Or.inl (zt2 (i := 94) (by decide +kernel) rfl)⟩, (zt2 (i := 95) (by decide +kernel) rfl)⟩
theorem kJ2_414 : zCallS RJ2 414 MJ0_checkIndex_df160 2 := ⟨⟨(zt2 (i := 82) (by decide +kernel) rfl), (zt1 (i := 9) (by decide +kernel) rfl), ⟨by decide +kernel, by decide +kernel, by decide +kernel⟩, by decide, Or.inl (zt2 (i := 97) (by decide +kernel) rfl)⟩, (zt2 (i := 81) (by decide +kernel) rfl)⟩
theorem kJ2_71 : zCallS RJ2 71 MJ2_getChar_3b067 2 := ⟨⟨(zt2 (i := 100) (by decide +kernel) rfl), (zt1 (i := 12) (by decide +kernel) rfl), ⟨by decide +kernel, by decide +kernel, by decide +kernel⟩, by decide, Or.inl (zt2 (i := 98) (by decide +kernel) rfl)⟩, (zt2 (i := 99) (by decide +kernel) rfl)⟩
theorem kX3_86 : zCallV RX3 86 MX3_readSun 2 := ⟨⟨(zt2 (i := 110) (by decide +kernel) rfl), (zt1 (i := 4) (by decide +kernel) rfl), ⟨by decide +kernel, by decide +kernel, by decide +kernel⟩, by decide, Or.inl (zt2 (i := 107) (by decide +kernel) rfl)⟩, (zt2 (i := 109) (by decide +kernel) rfl), (ztp (i := 10) (by decide +kernel) rfl)⟩
theorem kX5_44 : zCallV RX5 44 MX5_blame 2 := ⟨⟨(zt2 (i := 114) (by decide +kernel) rfl), (zt1 (i := 2) (by decide +kernel) rfl), ⟨by decide +kernel, by decide +kernel, by decide +kernel⟩, by decide, Or.inl (zt2 (i := 119) (by decide +kernel) rfl)⟩, (zt2 (i := 113) (by decide +kernel) rfl), (ztp (i := 11) (by decide +kernel) rfl)⟩
theorem kX3_92 : zCallV RX3 92 MX3_readYard 2 := ⟨⟨(zt2 (i := 128) (by decide +kernel) rfl), (zt1 (i := 4) (by decide +kernel) rfl), ⟨by decide +kernel, by decide +kernel, by decide +kernel⟩, by decide, Or.inl (zt2 (i := 125) (by decide +kernel) rfl)⟩, (zt2 (i := 127) (by decide +kernel) rfl), (ztp (i := 14) (by decide +kernel) rfl)⟩
theorem kX3_96 : zCallV RX3 96 MX3_readDead 2 := ⟨⟨(zt2 (i := 133) (by decide +kernel) rfl), (zt1 (i := 4) (by decide +kernel) rfl), ⟨by decide +kernel, by decide +kernel, by decide +kernel⟩, by decide, Or.inl (zt2 (i := 130) (by decide +kernel) rfl)⟩, (zt2 (i := 132) (by decide +kernel) rfl), (ztp (i := 15) (by decide +kernel) rfl)⟩
theorem kX6_142 : zCallS RX6 142 MX6_at 2 := ⟨⟨(zt2 (i := 143) (by decide +kernel) rfl), (zt1 (i := 1) (by decide +kernel) rfl), ⟨by decide +kernel, by decide +kernel, by decide +kernel⟩, by decide, Or.inl (zt2 (i := 141) (by decide +kernel) rfl)⟩, (zt2 (i := 142) (by decide +kernel) rfl)⟩
theorem kX6_188 : zCallS RX6 188 MX6_put 3 := ⟨⟨(zt1 (i := 207) (by decide +kernel) rfl), (zt1 (i := 1) (by decide +kernel) rfl), ⟨by decide +kernel, by decide +kernel, by decide +kernel⟩, by decide, Or.inl (zt2 (i := 144) (by decide +kernel) rfl)⟩, (zt1 (i := 206) (by decide +kernel) rfl)⟩
theorem kL_25 : zCallV RL 25 MX6_custom 0 := ⟨⟨(zt2 (i := 148) (by decide +kernel) rfl), (zt1 (i := 1) (by decide +kernel) rfl), ⟨by decide +kernel, by decide +kernel, by decide +kernel⟩, by decide, Or.inl (zt2 (i := 145) (by decide +kernel) rfl)⟩, (zt2 (i := 146) (by decide +kernel) rfl), (zt2 (i := 147) (by decide +kernel) rfl)⟩
theorem kX1_40 : zCallV RX1 40 MX1_readClause 1 := ⟨⟨(zt2 (i := 158) (by decide +kernel) rfl), (zt1 (i := 3) (by decide +kernel) rfl), ⟨by decide +kernel, by decide +kernel, by decide +kernel⟩, by decide, Or.inl (zt2 (i := 155) (by decide +kernel) rfl)⟩, (zt2 (i := 157) (by decide +kernel) rfl), (ztp (i := 18) (by decide +kernel) rfl)⟩
theorem kX1_63 : zCallV RX1 63 MX1_counts 1 := ⟨⟨(zt2 (i := 168) (by decide +kernel) rfl), (zt1 (i := 3) (by decide +kernel) rfl), ⟨by decide +kernel, by decide +kernel, by decide +kernel⟩, by decide, Or.inl (zt2 (i := 165) (by decide +kernel) rfl)⟩, (zt2 (i := 167) (by decide +kernel) rfl), (ztp (i := 19) (by decide +kernel) rfl)⟩
theorem kX1_67 : zCallV RX1 67 MX1_add 1 := ⟨⟨(zt1 (i := 204) (by decide +kernel) rfl), (zt1 (i := 3) (by decide +kernel) rfl), ⟨by decide +kernel, by decide +kernel, by decide +kernel⟩, by decide, Or.inl (zt2 (i := 170) (by decide +kernel) rfl)⟩, (zt1 (i := 203) (by decide +kernel) rfl), (ztp (i := 0) (by decide +kernel) rfl)⟩
theorem kL_29 : zCallV RL 29 MX6_fault 0 := ⟨⟨(zt2 (i := 180) (by decide +kernel) rfl), (zt1 (i := 1) (by decide +kernel) rfl), ⟨by decide +kernel, by decide +kernel, by decide +kernel⟩, by decide, Or.inl (zt2 (i := 177) (by decide +kernel) rfl)⟩, (zt2 (i := 178) (by decide +kernel) rfl), (zt2 (i := 179) (by decide +kernel) rfl)⟩
theorem kL_33 : zCallV RL 33 MX6_told 1 := ⟨⟨(zt2 (i := 184) (by decide +kernel) rfl), (zt1 (i := 1) (by decide +kernel) rfl), ⟨by decide +kernel, by decide +kernel, by decide +kernel⟩, by decide, Or.inl (zt2 (i := 181) (by decide +kernel) rfl)⟩, (zt2 (i := 182) (by decide +kernel) rfl), (zt2 (i := 183) (by decide +kernel) rfl)⟩
theorem kX3_125 : zCallV RX3 125 MX3_laid 0 := ⟨⟨(zt2 (i := 192) (by decide +kernel) rfl), (zt1 (i := 4) (by decide +kernel) rfl), ⟨by decide +kernel, by decide +kernel, by decide +kernel⟩, by decide, Or.inl (zt2 (i := 189) (by decide +kernel) rfl)⟩, (zt2 (i := 191) (by decide +kernel) rfl), (ztp (i := 22) (by decide +kernel) rfl)⟩
theorem kL_38 : zCallV RL 38 MX6_yard 2 := ⟨⟨(zt2 (i := 199) (by decide +kernel) rfl), (zt1 (i := 1) (by decide +kernel) rfl), ⟨by decide +kernel, by decide +kernel, by decide +kernel⟩, by decide, Or.inl (zt2 (i := 196) (by decide +kernel) rfl)⟩, (zt2 (i := 197) (by decide +kernel) rfl), (zt2 (i := 198) (by decide +kernel) rfl)⟩
theorem kL_43 : zCallV RL 43 MX6_dead 2 := ⟨⟨(zt2 (i := 212) (by decide +kernel) rfl), (zt1 (i := 1) (by decide +kernel) rfl), ⟨by decide +kernel, by decide +kernel, by decide +kernel⟩, by decide, Or.inl (zt2 (i := 209) (by decide +kernel) rfl)⟩, (zt2 (i := 210) (by decide +kernel) rfl), (zt2 (i := 211) (by decide +kernel) rfl)⟩
theorem kX6_174 : zCallS RX6 174 MX6_has 2 := ⟨⟨(zt2 (i := 219) (by decide +kernel) rfl), (zt1 (i := 1) (by decide +kernel) rfl), ⟨by decide +kernel, by decide +kernel, by decide +kernel⟩, by decide, Or.inl (zt2 (i := 217) (by decide +kernel) rfl)⟩, (zt2 (i := 218) (by decide +kernel) rfl)⟩
theorem kL_47 : zCallV RL 47 MX6_order 1 := ⟨⟨(zt2 (i := 223) (by decide +kernel) rfl), (zt1 (i := 1) (by decide +kernel) rfl), ⟨by decide +kernel, by decide +kernel, by decide +kernel⟩, by decide, Or.inl (zt2 (i := 220) (by decide +kernel) rfl)⟩, (zt2 (i := 221) (by decide +kernel) rfl), (zt2 (i := 222) (by decide +kernel) rfl)⟩
theorem kX3_165 : zCallV RX3 165 MX3_urgentClaim 2 := ⟨⟨(zt2 (i := 231) (by decide +kernel) rfl), (zt1 (i := 4) (by decide +kernel) rfl), ⟨by decide +kernel, by decide +kernel, by decide +kernel⟩, by decide, Or.inl (zt2 (i := 228) (by decide +kernel) rfl)⟩, (zt2 (i := 230) (by decide +kernel) rfl), (ztp (i := 27) (by decide +kernel) rfl)⟩
theorem kX3_159 : zCallV RX3 159 MX3_claim 2 := ⟨⟨(zt2 (i := 235) (by decide +kernel) rfl), (zt1 (i := 4) (by decide +kernel) rfl), ⟨by decide +kernel, by decide +kernel, by decide +kernel⟩, by decide, Or.inl (zt2 (i := 232) (by decide +kernel) rfl)⟩, (zt2 (i := 234) (by decide +kernel) rfl), (ztp (i := 28) (by decide +kernel) rfl)⟩
theorem kX3_152 : zCallV RX3 152 MX3_worth 2 := ⟨⟨(zt3 (i := 0) (by decide +kernel) rfl), (zt1 (i := 4) (by decide +kernel) rfl), ⟨by decide +kernel, by decide +kernel, by decide +kernel⟩, by decide, Or.inl (zt2 (i := 237) (by decide +kernel) rfl)⟩, (zt2 (i := 239) (by decide +kernel) rfl), (ztp (i := 29) (by decide +kernel) rfl)⟩
theorem kL_51 : zCallV RL 51 MX6_letter 2 := ⟨⟨(zt3 (i := 8) (by decide +kernel) rfl), (zt1 (i := 1) (by decide +kernel) rfl), ⟨by decide +kernel, by decide +kernel, by decide +kernel⟩, by decide, Or.inl (zt3 (i := 5) (by decide +kernel) rfl)⟩, (zt3 (i := 6) (by decide +kernel) rfl), (zt3 (i := 7) (by decide +kernel) rfl)⟩
theorem kL_55 : zCallV RL 55 MX6_gift 2 := ⟨⟨(zt3 (i := 12) (by decide +kernel) rfl), (zt1 (i := 1) (by decide +kernel) rfl), ⟨by decide +kernel, by decide +kernel, by decide +kernel⟩, by decide, Or.inl (zt3 (i := 9) (by decide +kernel) rfl)⟩, (zt3 (i := 10) (by decide +kernel) rfl), (zt3 (i := 11) (by decide +kernel) rfl)⟩
theorem lX6_193 : Cond.methodLink RX6 193 Lib.Math.min.name ∈ zT := (zt3 (i := 14) (by decide +kernel) rfl)
theorem kL_59 : zCallV RL 59 MX6_knock 1 := ⟨⟨(zt3 (i := 20) (by decide +kernel) rfl), (zt1 (i := 1) (by decide +kernel) rfl), ⟨by decide +kernel, by decide +kernel, by decide +kernel⟩, by decide, Or.inl (zt3 (i := 17) (by decide +kernel) rfl)⟩, (zt3 (i := 18) (by decide +kernel) rfl), (zt3 (i := 19) (by decide +kernel) rfl)⟩
theorem kL_63 : zCallV RL 63 MX6_day 1 := ⟨⟨(zt3 (i := 24) (by decide +kernel) rfl), (zt1 (i := 1) (by decide +kernel) rfl), ⟨by decide +kernel, by decide +kernel, by decide +kernel⟩, by decide, Or.inl (zt3 (i := 21) (by decide +kernel) rfl)⟩, (zt3 (i := 22) (by decide +kernel) rfl), (zt3 (i := 23) (by decide +kernel) rfl)⟩
theorem kX3_132 : zCallV RX3 132 MX3_taken 0 := ⟨⟨(zt3 (i := 32) (by decide +kernel) rfl), (zt1 (i := 4) (by decide +kernel) rfl), ⟨by decide +kernel, by decide +kernel, by decide +kernel⟩, by decide, Or.inl (zt3 (i := 29) (by decide +kernel) rfl)⟩, (zt3 (i := 31) (by decide +kernel) rfl), (ztp (i := 31) (by decide +kernel) rfl)⟩
theorem kX3_175 : zCallV RX3 175 MX3_thawOf 2 := ⟨⟨(zt3 (i := 36) (by decide +kernel) rfl), (zt1 (i := 4) (by decide +kernel) rfl), ⟨by decide +kernel, by decide +kernel, by decide +kernel⟩, by decide, Or.inl (zt3 (i := 33) (by decide +kernel) rfl)⟩, (zt3 (i := 35) (by decide +kernel) rfl), (ztp (i := 32) (by decide +kernel) rfl)⟩
theorem lX3_170 : Cond.methodLink RX3 170 Lib.Math.max.name ∈ zT := (zt3 (i := 37) (by decide +kernel) rfl)
theorem lX3_178 : Cond.methodLink RX3 178 Lib.Math.min.name ∈ zT := (zt3 (i := 40) (by decide +kernel) rfl)
theorem kX3_135 : zCallV RX3 135 MX3_waiting 0 := ⟨⟨(zt2 (i := 188) (by decide +kernel) rfl), (zt1 (i := 4) (by decide +kernel) rfl), ⟨by decide +kernel, by decide +kernel, by decide +kernel⟩, by decide, Or.inl (zt3 (i := 41) (by decide +kernel) rfl)⟩, (zt2 (i := 187) (by decide +kernel) rfl), (ztp (i := 21) (by decide +kernel) rfl)⟩
theorem kL_67 : zCallV RL 67 MX6_rats 2 := ⟨⟨(zt3 (i := 49) (by decide +kernel) rfl), (zt1 (i := 1) (by decide +kernel) rfl), ⟨by decide +kernel, by decide +kernel, by decide +kernel⟩, by decide, Or.inl (zt3 (i := 46) (by decide +kernel) rfl)⟩, (zt3 (i := 47) (by decide +kernel) rfl), (zt3 (i := 48) (by decide +kernel) rfl)⟩
theorem kX3_188 : zCallV RX3 188 MX3_draw 1 := ⟨⟨(zt3 (i := 57) (by decide +kernel) rfl), (zt1 (i := 4) (by decide +kernel) rfl), ⟨by decide +kernel, by decide +kernel, by decide +kernel⟩, by decide, Or.inl (zt3 (i := 54) (by decide +kernel) rfl)⟩, (zt3 (i := 56) (by decide +kernel) rfl), (ztp (i := 35) (by decide +kernel) rfl)⟩
theorem kL_71 : zCallV RL 71 MX6_lay 2 := ⟨⟨(zt3 (i := 69) (by decide +kernel) rfl), (zt1 (i := 1) (by decide +kernel) rfl), ⟨by decide +kernel, by decide +kernel, by decide +kernel⟩, by decide, Or.inl (zt3 (i := 66) (by decide +kernel) rfl)⟩, (zt3 (i := 67) (by decide +kernel) rfl), (zt3 (i := 68) (by decide +kernel) rfl)⟩
theorem kL_75 : zCallV RL 75 MX6_spring 2 := ⟨⟨(zt3 (i := 78) (by decide +kernel) rfl), (zt1 (i := 1) (by decide +kernel) rfl), ⟨by decide +kernel, by decide +kernel, by decide +kernel⟩, by decide, Or.inl (zt3 (i := 75) (by decide +kernel) rfl)⟩, (zt3 (i := 76) (by decide +kernel) rfl), (zt3 (i := 77) (by decide +kernel) rfl)⟩
theorem kX6_223 : zCallV RX6 223 MX6_useSpades 1 := ⟨⟨(zt3 (i := 83) (by decide +kernel) rfl), (zt1 (i := 1) (by decide +kernel) rfl), ⟨by decide +kernel, by decide +kernel, by decide +kernel⟩, by decide, Or.inl (zt3 (i := 80) (by decide +kernel) rfl)⟩, (zt3 (i := 82) (by decide +kernel) rfl), (ztp (i := 38) (by decide +kernel) rfl)⟩
theorem kX3_129 : zCallV RX3 129 MX3_soft 0 := ⟨⟨(zt3 (i := 45) (by decide +kernel) rfl), (zt1 (i := 4) (by decide +kernel) rfl), ⟨by decide +kernel, by decide +kernel, by decide +kernel⟩, by decide, Or.inl (zt3 (i := 93) (by decide +kernel) rfl)⟩, (zt3 (i := 44) (by decide +kernel) rfl), (ztp (i := 33) (by decide +kernel) rfl)⟩
theorem kX6_238 : zCallS RX6 238 MJ6_numberOfTrailingZeros_0f7a4 1 := ⟨⟨(zt3 (i := 96) (by decide +kernel) rfl), (zt1 (i := 14) (by decide +kernel) rfl), ⟨by decide +kernel, by decide +kernel, by decide +kernel⟩, by decide, Or.inl (zt3 (i := 94) (by decide +kernel) rfl)⟩, (zt3 (i := 95) (by decide +kernel) rfl)⟩
theorem kX6_226 : zCallS RX6 226 MJ6_bitCount_0f7a4 1 := ⟨⟨(zt3 (i := 100) (by decide +kernel) rfl), (zt1 (i := 14) (by decide +kernel) rfl), ⟨by decide +kernel, by decide +kernel, by decide +kernel⟩, by decide, Or.inl (zt3 (i := 98) (by decide +kernel) rfl)⟩, (zt3 (i := 99) (by decide +kernel) rfl)⟩
theorem kL_79 : zCallV RL 79 MX6_offended 1 := ⟨⟨(zt3 (i := 107) (by decide +kernel) rfl), (zt1 (i := 1) (by decide +kernel) rfl), ⟨by decide +kernel, by decide +kernel, by decide +kernel⟩, by decide, Or.inl (zt3 (i := 104) (by decide +kernel) rfl)⟩, (zt3 (i := 105) (by decide +kernel) rfl), (zt3 (i := 106) (by decide +kernel) rfl)⟩
theorem kX4_64 : zCallV RX4 64 MX4_offends 2 := ⟨⟨(zt3 (i := 124) (by decide +kernel) rfl), (zt1 (i := 6) (by decide +kernel) rfl), ⟨by decide +kernel, by decide +kernel, by decide +kernel⟩, by decide, Or.inl (zt3 (i := 121) (by decide +kernel) rfl)⟩, (zt3 (i := 123) (by decide +kernel) rfl), (ztp (i := 43) (by decide +kernel) rfl)⟩
theorem kL_83 : zCallV RL 83 MX6_quarrels 0 := ⟨⟨(zt3 (i := 129) (by decide +kernel) rfl), (zt1 (i := 1) (by decide +kernel) rfl), ⟨by decide +kernel, by decide +kernel, by decide +kernel⟩, by decide, Or.inl (zt3 (i := 126) (by decide +kernel) rfl)⟩, (zt3 (i := 127) (by decide +kernel) rfl), (zt3 (i := 128) (by decide +kernel) rfl)⟩
theorem kX4_76 : zCallV RX4 76 MX4_quarrelsAmong 2 := ⟨⟨(zt3 (i := 137) (by decide +kernel) rfl), (zt1 (i := 6) (by decide +kernel) rfl), ⟨by decide +kernel, by decide +kernel, by decide +kernel⟩, by decide, Or.inl (zt3 (i := 134) (by decide +kernel) rfl)⟩, (zt3 (i := 136) (by decide +kernel) rfl), (ztp (i := 45) (by decide +kernel) rfl)⟩
theorem kX4_72 : zCallV RX4 72 MX4_quarrelsOf 2 := ⟨⟨(zt3 (i := 141) (by decide +kernel) rfl), (zt1 (i := 6) (by decide +kernel) rfl), ⟨by decide +kernel, by decide +kernel, by decide +kernel⟩, by decide, Or.inl (zt3 (i := 138) (by decide +kernel) rfl)⟩, (zt3 (i := 140) (by decide +kernel) rfl), (ztp (i := 46) (by decide +kernel) rfl)⟩
theorem lX4_67 : Cond.methodLink RX4 67 Lib.Math.abs.name ∈ zT := (zt3 (i := 142) (by decide +kernel) rfl)
theorem kL_87 : zCallV RL 87 MX6_laying 1 := ⟨⟨(zt3 (i := 148) (by decide +kernel) rfl), (zt1 (i := 1) (by decide +kernel) rfl), ⟨by decide +kernel, by decide +kernel, by decide +kernel⟩, by decide, Or.inl (zt3 (i := 145) (by decide +kernel) rfl)⟩, (zt3 (i := 146) (by decide +kernel) rfl), (zt3 (i := 147) (by decide +kernel) rfl)⟩
theorem kX4_79 : zCallS RX4 79 MJ6_bitCount_0f7a4 1 := ⟨⟨(zt3 (i := 100) (by decide +kernel) rfl), (zt1 (i := 14) (by decide +kernel) rfl), ⟨by decide +kernel, by decide +kernel, by decide +kernel⟩, by decide, Or.inl (zt3 (i := 153) (by decide +kernel) rfl)⟩, (zt3 (i := 99) (by decide +kernel) rfl)⟩
theorem kX4_84 : zCallV RX4 84 MX4_quarrelsNow 0 := ⟨⟨(zt3 (i := 133) (by decide +kernel) rfl), (zt1 (i := 6) (by decide +kernel) rfl), ⟨by decide +kernel, by decide +kernel, by decide +kernel⟩, by decide, Or.inl (zt3 (i := 154) (by decide +kernel) rfl)⟩, (zt3 (i := 132) (by decide +kernel) rfl), (ztp (i := 44) (by decide +kernel) rfl)⟩
theorem kX4_88 : zCallS RX4 88 MX4_search 5 := ⟨⟨(zt3 (i := 157) (by decide +kernel) rfl), (zt1 (i := 6) (by decide +kernel) rfl), ⟨by decide +kernel, by decide +kernel, by decide +kernel⟩, by decide, Or.inl (zt3 (i := 155) (by decide +kernel) rfl)⟩, (zt3 (i := 156) (by decide +kernel) rfl)⟩
theorem kL_91 : zCallV RL 91 MX6_when 2 := ⟨⟨(zt3 (i := 162) (by decide +kernel) rfl), (zt1 (i := 1) (by decide +kernel) rfl), ⟨by decide +kernel, by decide +kernel, by decide +kernel⟩, by decide, Or.inl (zt3 (i := 159) (by decide +kernel) rfl)⟩, (zt3 (i := 160) (by decide +kernel) rfl), (zt3 (i := 161) (by decide +kernel) rfl)⟩
theorem kX3_191 : zCallV RX3 191 MX3_softBehind 2 := ⟨⟨(zt3 (i := 170) (by decide +kernel) rfl), (zt1 (i := 4) (by decide +kernel) rfl), ⟨by decide +kernel, by decide +kernel, by decide +kernel⟩, by decide, Or.inl (zt3 (i := 167) (by decide +kernel) rfl)⟩, (zt3 (i := 169) (by decide +kernel) rfl), (ztp (i := 49) (by decide +kernel) rfl)⟩
theorem kL_95 : zCallV RL 95 MX6_span 4 := ⟨⟨(zt3 (i := 174) (by decide +kernel) rfl), (zt1 (i := 1) (by decide +kernel) rfl), ⟨by decide +kernel, by decide +kernel, by decide +kernel⟩, by decide, Or.inl (zt3 (i := 171) (by decide +kernel) rfl)⟩, (zt3 (i := 172) (by decide +kernel) rfl), (zt3 (i := 173) (by decide +kernel) rfl)⟩
theorem kL_100 : zCallV RL 100 MX6_bribe 2 := ⟨⟨(zt3 (i := 178) (by decide +kernel) rfl), (zt1 (i := 1) (by decide +kernel) rfl), ⟨by decide +kernel, by decide +kernel, by decide +kernel⟩, by decide, Or.inl (zt3 (i := 175) (by decide +kernel) rfl)⟩, (zt3 (i := 176) (by decide +kernel) rfl), (zt3 (i := 177) (by decide +kernel) rfl)⟩
theorem kX6_267 : zCallV RX6 267 MX6_leastBribe 2 := ⟨⟨(zt3 (i := 182) (by decide +kernel) rfl), (zt1 (i := 1) (by decide +kernel) rfl), ⟨by decide +kernel, by decide +kernel, by decide +kernel⟩, by decide, Or.inl (zt3 (i := 179) (by decide +kernel) rfl)⟩, (zt3 (i := 181) (by decide +kernel) rfl), (ztp (i := 50) (by decide +kernel) rfl)⟩
theorem kL_104 : zCallV RL 104 MX6_label 2 := ⟨⟨(zt3 (i := 186) (by decide +kernel) rfl), (zt1 (i := 1) (by decide +kernel) rfl), ⟨by decide +kernel, by decide +kernel, by decide +kernel⟩, by decide, Or.inl (zt3 (i := 183) (by decide +kernel) rfl)⟩, (zt3 (i := 184) (by decide +kernel) rfl), (zt3 (i := 185) (by decide +kernel) rfl)⟩
theorem kL_108 : zCallV RL 108 MX6_mark 2 := ⟨⟨(zt3 (i := 190) (by decide +kernel) rfl), (zt1 (i := 1) (by decide +kernel) rfl), ⟨by decide +kernel, by decide +kernel, by decide +kernel⟩, by decide, Or.inl (zt3 (i := 187) (by decide +kernel) rfl)⟩, (zt3 (i := 188) (by decide +kernel) rfl), (zt3 (i := 189) (by decide +kernel) rfl)⟩
theorem kX6_270 : zCallS RX6 270 MX6_allBelow 1 := ⟨⟨(zt1 (i := 215) (by decide +kernel) rfl), (zt1 (i := 1) (by decide +kernel) rfl), ⟨by decide +kernel, by decide +kernel, by decide +kernel⟩, by decide, Or.inl (zt3 (i := 191) (by decide +kernel) rfl)⟩, (zt1 (i := 214) (by decide +kernel) rfl)⟩
theorem kL_112 : zCallV RL 112 MX6_fits 0 := ⟨⟨(zt3 (i := 195) (by decide +kernel) rfl), (zt1 (i := 1) (by decide +kernel) rfl), ⟨by decide +kernel, by decide +kernel, by decide +kernel⟩, by decide, Or.inl (zt3 (i := 192) (by decide +kernel) rfl)⟩, (zt3 (i := 193) (by decide +kernel) rfl), (zt3 (i := 194) (by decide +kernel) rfl)⟩
theorem kX2_32 : zCallS RX2 32 MJ6_bitCount_0f7a4 1 := ⟨⟨(zt3 (i := 100) (by decide +kernel) rfl), (zt1 (i := 14) (by decide +kernel) rfl), ⟨by decide +kernel, by decide +kernel, by decide +kernel⟩, by decide, Or.inl (zt3 (i := 202) (by decide +kernel) rfl)⟩, (zt3 (i := 99) (by decide +kernel) rfl)⟩
theorem kL_116 : zCallV RL 116 MX6_mixed 1 := ⟨⟨(zt3 (i := 209) (by decide +kernel) rfl), (zt1 (i := 1) (by decide +kernel) rfl), ⟨by decide +kernel, by decide +kernel, by decide +kernel⟩, by decide, Or.inl (zt3 (i := 206) (by decide +kernel) rfl)⟩, (zt3 (i := 207) (by decide +kernel) rfl), (zt3 (i := 208) (by decide +kernel) rfl)⟩
theorem kX2_48 : zCallV RX2 48 MX2_changesWith 3 := ⟨⟨(zt3 (i := 217) (by decide +kernel) rfl), (zt1 (i := 7) (by decide +kernel) rfl), ⟨by decide +kernel, by decide +kernel, by decide +kernel⟩, by decide, Or.inl (zt3 (i := 214) (by decide +kernel) rfl)⟩, (zt3 (i := 216) (by decide +kernel) rfl), (ztp (i := 53) (by decide +kernel) rfl)⟩
theorem lX2_52 : Cond.methodLink RX2 52 Lib.Math.min.name ∈ zT := (zt3 (i := 218) (by decide +kernel) rfl)
theorem kL_120 : zCallV RL 120 MX6_churches 1 := ⟨⟨(zt3 (i := 230) (by decide +kernel) rfl), (zt1 (i := 1) (by decide +kernel) rfl), ⟨by decide +kernel, by decide +kernel, by decide +kernel⟩, by decide, Or.inl (zt3 (i := 227) (by decide +kernel) rfl)⟩, (zt3 (i := 228) (by decide +kernel) rfl), (zt3 (i := 229) (by decide +kernel) rfl)⟩
theorem lX6_290 : Cond.methodLink RX6 290 Lib.Math.abs.name ∈ zT := (zt3 (i := 235) (by decide +kernel) rfl)
theorem kL_124 : zCallV RL 124 MX6_write 2 := ⟨⟨(zt3 (i := 239) (by decide +kernel) rfl), (zt1 (i := 1) (by decide +kernel) rfl), ⟨by decide +kernel, by decide +kernel, by decide +kernel⟩, by decide, Or.inl (zt3 (i := 236) (by decide +kernel) rfl)⟩, (zt3 (i := 237) (by decide +kernel) rfl), (zt3 (i := 238) (by decide +kernel) rfl)⟩
theorem kL_128 : zCallV RL 128 MX6_tear 0 := ⟨⟨(zt4 (i := 8) (by decide +kernel) rfl), (zt1 (i := 1) (by decide +kernel) rfl), ⟨by decide +kernel, by decide +kernel, by decide +kernel⟩, by decide, Or.inl (zt4 (i := 5) (by decide +kernel) rfl)⟩, (zt4 (i := 6) (by decide +kernel) rfl), (zt4 (i := 7) (by decide +kernel) rfl)⟩
theorem kL_132 : zCallV RL 132 MX6_judge 0 := ⟨⟨(zt4 (i := 12) (by decide +kernel) rfl), (zt1 (i := 1) (by decide +kernel) rfl), ⟨by decide +kernel, by decide +kernel, by decide +kernel⟩, by decide, Or.inl (zt4 (i := 9) (by decide +kernel) rfl)⟩, (zt4 (i := 10) (by decide +kernel) rfl), (zt4 (i := 11) (by decide +kernel) rfl)⟩
theorem kL_136 : zCallV RL 136 MX6_seed 1 := ⟨⟨(zt4 (i := 16) (by decide +kernel) rfl), (zt1 (i := 1) (by decide +kernel) rfl), ⟨by decide +kernel, by decide +kernel, by decide +kernel⟩, by decide, Or.inl (zt4 (i := 13) (by decide +kernel) rfl)⟩, (zt4 (i := 14) (by decide +kernel) rfl), (zt4 (i := 15) (by decide +kernel) rfl)⟩
theorem kL_140 : zCallV RL 140 MX6_keep 1 := ⟨⟨(zt4 (i := 20) (by decide +kernel) rfl), (zt1 (i := 1) (by decide +kernel) rfl), ⟨by decide +kernel, by decide +kernel, by decide +kernel⟩, by decide, Or.inl (zt4 (i := 17) (by decide +kernel) rfl)⟩, (zt4 (i := 18) (by decide +kernel) rfl), (zt4 (i := 19) (by decide +kernel) rfl)⟩
theorem kL_144 : zCallV RL 144 MX6_goBack 1 := ⟨⟨(zt4 (i := 24) (by decide +kernel) rfl), (zt1 (i := 1) (by decide +kernel) rfl), ⟨by decide +kernel, by decide +kernel, by decide +kernel⟩, by decide, Or.inl (zt4 (i := 21) (by decide +kernel) rfl)⟩, (zt4 (i := 22) (by decide +kernel) rfl), (zt4 (i := 23) (by decide +kernel) rfl)⟩
theorem kL_12 : zCallI RL 12 MX7_init 0 := ⟨⟨(zt4 (i := 29) (by decide +kernel) rfl), (zt1 (i := 8) (by decide +kernel) rfl), ⟨by decide +kernel, by decide +kernel, by decide +kernel⟩, by decide, Or.inl (zt4 (i := 27) (by decide +kernel) rfl)⟩, (zt4 (i := 28) (by decide +kernel) rfl), rfl, rfl⟩
theorem oX7_1 : Cond.methodLink RX7 1 Lib.objectInit ∈ zT := (zt4 (i := 30) (by decide +kernel) rfl)
theorem kL_19 : zCallV RL 19 MX7_feed 2 := ⟨⟨(zt4 (i := 129) (by decide +kernel) rfl), (zt1 (i := 8) (by decide +kernel) rfl), ⟨by decide +kernel, by decide +kernel, by decide +kernel⟩, by decide, Or.inl (zt4 (i := 126) (by decide +kernel) rfl)⟩, (zt4 (i := 127) (by decide +kernel) rfl), (zt4 (i := 128) (by decide +kernel) rfl)⟩
theorem kX7_77 : zCallS RX7 77 MX7_in 3 := ⟨⟨(zt4 (i := 133) (by decide +kernel) rfl), (zt1 (i := 8) (by decide +kernel) rfl), ⟨by decide +kernel, by decide +kernel, by decide +kernel⟩, by decide, Or.inl (zt4 (i := 131) (by decide +kernel) rfl)⟩, (zt4 (i := 132) (by decide +kernel) rfl)⟩
theorem kL_24 : zCallV RL 24 MX7_parish 0 := ⟨⟨(zt4 (i := 140) (by decide +kernel) rfl), (zt1 (i := 8) (by decide +kernel) rfl), ⟨by decide +kernel, by decide +kernel, by decide +kernel⟩, by decide, Or.inl (zt4 (i := 137) (by decide +kernel) rfl)⟩, (zt4 (i := 138) (by decide +kernel) rfl), (zt4 (i := 139) (by decide +kernel) rfl)⟩
theorem kX7_141 : zCallV RX7 141 MX7_start 0 := ⟨⟨(zt4 (i := 144) (by decide +kernel) rfl), (zt1 (i := 8) (by decide +kernel) rfl), ⟨by decide +kernel, by decide +kernel, by decide +kernel⟩, by decide, Or.inl (zt4 (i := 141) (by decide +kernel) rfl)⟩, (zt4 (i := 143) (by decide +kernel) rfl), (ztp (i := 58) (by decide +kernel) rfl)⟩
theorem kX7_94 : zCallV RX7 94 MX7_here 0 := ⟨⟨(zt4 (i := 148) (by decide +kernel) rfl), (zt1 (i := 8) (by decide +kernel) rfl), ⟨by decide +kernel, by decide +kernel, by decide +kernel⟩, by decide, Or.inl (zt4 (i := 145) (by decide +kernel) rfl)⟩, (zt4 (i := 147) (by decide +kernel) rfl), (ztp (i := 59) (by decide +kernel) rfl)⟩
theorem kX7_144 : zCallV RX7 144 MX7_takeClause 0 := ⟨⟨(zt4 (i := 152) (by decide +kernel) rfl), (zt1 (i := 8) (by decide +kernel) rfl), ⟨by decide +kernel, by decide +kernel, by decide +kernel⟩, by decide, Or.inl (zt4 (i := 149) (by decide +kernel) rfl)⟩, (zt4 (i := 151) (by decide +kernel) rfl), (ztp (i := 60) (by decide +kernel) rfl)⟩
theorem kX7_117 : zCallV RX7 117 MX7_takeWord 0 := ⟨⟨(zt4 (i := 156) (by decide +kernel) rfl), (zt1 (i := 8) (by decide +kernel) rfl), ⟨by decide +kernel, by decide +kernel, by decide +kernel⟩, by decide, Or.inl (zt4 (i := 153) (by decide +kernel) rfl)⟩, (zt4 (i := 155) (by decide +kernel) rfl), (ztp (i := 61) (by decide +kernel) rfl)⟩
theorem kX7_120 : zCallV RX7 120 MX7_isWord 6 := ⟨⟨(zt4 (i := 162) (by decide +kernel) rfl), (zt1 (i := 8) (by decide +kernel) rfl), ⟨by decide +kernel, by decide +kernel, by decide +kernel⟩, by decide, Or.inl (zt4 (i := 159) (by decide +kernel) rfl)⟩, (zt4 (i := 161) (by decide +kernel) rfl), (ztp (i := 62) (by decide +kernel) rfl)⟩
theorem kX7_112 : zCallV RX7 112 MX7_want 3 := ⟨⟨(zt4 (i := 166) (by decide +kernel) rfl), (zt1 (i := 8) (by decide +kernel) rfl), ⟨by decide +kernel, by decide +kernel, by decide +kernel⟩, by decide, Or.inl (zt4 (i := 163) (by decide +kernel) rfl)⟩, (zt4 (i := 165) (by decide +kernel) rfl), (ztp (i := 63) (by decide +kernel) rfl)⟩
theorem kX7_128 : zCallV RX7 128 MX7_takeNumber 2 := ⟨⟨(zt4 (i := 170) (by decide +kernel) rfl), (zt1 (i := 8) (by decide +kernel) rfl), ⟨by decide +kernel, by decide +kernel, by decide +kernel⟩, by decide, Or.inl (zt4 (i := 167) (by decide +kernel) rfl)⟩, (zt4 (i := 169) (by decide +kernel) rfl), (ztp (i := 64) (by decide +kernel) rfl)⟩
theorem kX7_138 : zCallV RX7 138 MX7_takeEnd 0 := ⟨⟨(zt4 (i := 177) (by decide +kernel) rfl), (zt1 (i := 8) (by decide +kernel) rfl), ⟨by decide +kernel, by decide +kernel, by decide +kernel⟩, by decide, Or.inl (zt4 (i := 174) (by decide +kernel) rfl)⟩, (zt4 (i := 176) (by decide +kernel) rfl), (ztp (i := 65) (by decide +kernel) rfl)⟩
theorem kL_28 : zCallV RL 28 MX7_custom 0 := ⟨⟨(zt4 (i := 181) (by decide +kernel) rfl), (zt1 (i := 8) (by decide +kernel) rfl), ⟨by decide +kernel, by decide +kernel, by decide +kernel⟩, by decide, Or.inl (zt4 (i := 178) (by decide +kernel) rfl)⟩, (zt4 (i := 179) (by decide +kernel) rfl), (zt4 (i := 180) (by decide +kernel) rfl)⟩
theorem kX7_150 : zCallS RX7 150 MX7_has 2 := ⟨⟨(zt4 (i := 184) (by decide +kernel) rfl), (zt1 (i := 8) (by decide +kernel) rfl), ⟨by decide +kernel, by decide +kernel, by decide +kernel⟩, by decide, Or.inl (zt4 (i := 182) (by decide +kernel) rfl)⟩, (zt4 (i := 183) (by decide +kernel) rfl)⟩
theorem kL_32 : zCallV RL 32 MX7_fault 0 := ⟨⟨(zt4 (i := 188) (by decide +kernel) rfl), (zt1 (i := 8) (by decide +kernel) rfl), ⟨by decide +kernel, by decide +kernel, by decide +kernel⟩, by decide, Or.inl (zt4 (i := 185) (by decide +kernel) rfl)⟩, (zt4 (i := 186) (by decide +kernel) rfl), (zt4 (i := 187) (by decide +kernel) rfl)⟩
theorem kL_37 : zCallV RL 37 MX7_told 1 := ⟨⟨(zt4 (i := 192) (by decide +kernel) rfl), (zt1 (i := 8) (by decide +kernel) rfl), ⟨by decide +kernel, by decide +kernel, by decide +kernel⟩, by decide, Or.inl (zt4 (i := 189) (by decide +kernel) rfl)⟩, (zt4 (i := 190) (by decide +kernel) rfl), (zt4 (i := 191) (by decide +kernel) rfl)⟩
theorem kX7_175 : zCallV RX7 175 MX7_loft 1 := ⟨⟨(zt4 (i := 196) (by decide +kernel) rfl), (zt1 (i := 8) (by decide +kernel) rfl), ⟨by decide +kernel, by decide +kernel, by decide +kernel⟩, by decide, Or.inl (zt4 (i := 193) (by decide +kernel) rfl)⟩, (zt4 (i := 195) (by decide +kernel) rfl), (ztp (i := 66) (by decide +kernel) rfl)⟩
theorem kX7_154 : zCallV RX7 154 MX7_isInLoft 2 := ⟨⟨(zt4 (i := 200) (by decide +kernel) rfl), (zt1 (i := 8) (by decide +kernel) rfl), ⟨by decide +kernel, by decide +kernel, by decide +kernel⟩, by decide, Or.inl (zt4 (i := 197) (by decide +kernel) rfl)⟩, (zt4 (i := 199) (by decide +kernel) rfl), (ztp (i := 67) (by decide +kernel) rfl)⟩
theorem kX7_157 : zCallS RX7 157 MX7_one 1 := ⟨⟨(zt4 (i := 203) (by decide +kernel) rfl), (zt1 (i := 8) (by decide +kernel) rfl), ⟨by decide +kernel, by decide +kernel, by decide +kernel⟩, by decide, Or.inl (zt4 (i := 201) (by decide +kernel) rfl)⟩, (zt4 (i := 202) (by decide +kernel) rfl)⟩
theorem kX7_179 : zCallV RX7 179 MX7_laid 1 := ⟨⟨(zt4 (i := 207) (by decide +kernel) rfl), (zt1 (i := 8) (by decide +kernel) rfl), ⟨by decide +kernel, by decide +kernel, by decide +kernel⟩, by decide, Or.inl (zt4 (i := 204) (by decide +kernel) rfl)⟩, (zt4 (i := 206) (by decide +kernel) rfl), (ztp (i := 68) (by decide +kernel) rfl)⟩
theorem kL_42 : zCallV RL 42 MX7_yard 2 := ⟨⟨(zt4 (i := 211) (by decide +kernel) rfl), (zt1 (i := 8) (by decide +kernel) rfl), ⟨by decide +kernel, by decide +kernel, by decide +kernel⟩, by decide, Or.inl (zt4 (i := 208) (by decide +kernel) rfl)⟩, (zt4 (i := 209) (by decide +kernel) rfl), (zt4 (i := 210) (by decide +kernel) rfl)⟩
theorem kX7_182 : zCallV RX7 182 MX7_isYard 1 := ⟨⟨(zt4 (i := 215) (by decide +kernel) rfl), (zt1 (i := 8) (by decide +kernel) rfl), ⟨by decide +kernel, by decide +kernel, by decide +kernel⟩, by decide, Or.inl (zt4 (i := 212) (by decide +kernel) rfl)⟩, (zt4 (i := 214) (by decide +kernel) rfl), (ztp (i := 69) (by decide +kernel) rfl)⟩
theorem kX7_187 : zCallV RX7 187 MX7_who 2 := ⟨⟨(zt4 (i := 220) (by decide +kernel) rfl), (zt1 (i := 8) (by decide +kernel) rfl), ⟨by decide +kernel, by decide +kernel, by decide +kernel⟩, by decide, Or.inl (zt4 (i := 217) (by decide +kernel) rfl)⟩, (zt4 (i := 219) (by decide +kernel) rfl), (ztp (i := 70) (by decide +kernel) rfl)⟩
theorem kL_46 : zCallV RL 46 MX7_dead 2 := ⟨⟨(zt4 (i := 224) (by decide +kernel) rfl), (zt1 (i := 8) (by decide +kernel) rfl), ⟨by decide +kernel, by decide +kernel, by decide +kernel⟩, by decide, Or.inl (zt4 (i := 221) (by decide +kernel) rfl)⟩, (zt4 (i := 222) (by decide +kernel) rfl), (zt4 (i := 223) (by decide +kernel) rfl)⟩
theorem kX7_190 : zCallV RX7 190 MX7_isDead 1 := ⟨⟨(zt4 (i := 228) (by decide +kernel) rfl), (zt1 (i := 8) (by decide +kernel) rfl), ⟨by decide +kernel, by decide +kernel, by decide +kernel⟩, by decide, Or.inl (zt4 (i := 225) (by decide +kernel) rfl)⟩, (zt4 (i := 227) (by decide +kernel) rfl), (ztp (i := 71) (by decide +kernel) rfl)⟩
theorem kL_50 : zCallV RL 50 MX7_order 1 := ⟨⟨(zt4 (i := 232) (by decide +kernel) rfl), (zt1 (i := 8) (by decide +kernel) rfl), ⟨by decide +kernel, by decide +kernel, by decide +kernel⟩, by decide, Or.inl (zt4 (i := 229) (by decide +kernel) rfl)⟩, (zt4 (i := 230) (by decide +kernel) rfl), (zt4 (i := 231) (by decide +kernel) rfl)⟩
theorem kX7_193 : zCallV RX7 193 MX7_inOrder 2 := ⟨⟨(zt4 (i := 236) (by decide +kernel) rfl), (zt1 (i := 8) (by decide +kernel) rfl), ⟨by decide +kernel, by decide +kernel, by decide +kernel⟩, by decide, Or.inl (zt4 (i := 233) (by decide +kernel) rfl)⟩, (zt4 (i := 235) (by decide +kernel) rfl), (ztp (i := 72) (by decide +kernel) rfl)⟩
theorem kX7_172 : zCallV RX7 172 MX7_placeOf 2 := ⟨⟨(zt5 (i := 0) (by decide +kernel) rfl), (zt1 (i := 8) (by decide +kernel) rfl), ⟨by decide +kernel, by decide +kernel, by decide +kernel⟩, by decide, Or.inl (zt4 (i := 237) (by decide +kernel) rfl)⟩, (zt4 (i := 239) (by decide +kernel) rfl), (ztp (i := 73) (by decide +kernel) rfl)⟩
theorem kX7_169 : zCallV RX7 169 MX7_isAhead 3 := ⟨⟨(zt5 (i := 4) (by decide +kernel) rfl), (zt1 (i := 8) (by decide +kernel) rfl), ⟨by decide +kernel, by decide +kernel, by decide +kernel⟩, by decide, Or.inl (zt5 (i := 1) (by decide +kernel) rfl)⟩, (zt5 (i := 3) (by decide +kernel) rfl), (ztp (i := 74) (by decide +kernel) rfl)⟩
theorem kX7_165 : zCallV RX7 165 MX7_isAheadByCustom 3 := ⟨⟨(zt5 (i := 8) (by decide +kernel) rfl), (zt1 (i := 8) (by decide +kernel) rfl), ⟨by decide +kernel, by decide +kernel, by decide +kernel⟩, by decide, Or.inl (zt5 (i := 5) (by decide +kernel) rfl)⟩, (zt5 (i := 7) (by decide +kernel) rfl), (ztp (i := 75) (by decide +kernel) rfl)⟩
theorem kX7_161 : zCallV RX7 161 MX7_valueBy 3 := ⟨⟨(zt5 (i := 12) (by decide +kernel) rfl), (zt1 (i := 8) (by decide +kernel) rfl), ⟨by decide +kernel, by decide +kernel, by decide +kernel⟩, by decide, Or.inl (zt5 (i := 9) (by decide +kernel) rfl)⟩, (zt5 (i := 11) (by decide +kernel) rfl), (ztp (i := 76) (by decide +kernel) rfl)⟩
theorem kL_54 : zCallV RL 54 MX7_letter 2 := ⟨⟨(zt5 (i := 16) (by decide +kernel) rfl), (zt1 (i := 8) (by decide +kernel) rfl), ⟨by decide +kernel, by decide +kernel, by decide +kernel⟩, by decide, Or.inl (zt5 (i := 13) (by decide +kernel) rfl)⟩, (zt5 (i := 14) (by decide +kernel) rfl), (zt5 (i := 15) (by decide +kernel) rfl)⟩
theorem kL_58 : zCallV RL 58 MX7_gift 2 := ⟨⟨(zt5 (i := 21) (by decide +kernel) rfl), (zt1 (i := 8) (by decide +kernel) rfl), ⟨by decide +kernel, by decide +kernel, by decide +kernel⟩, by decide, Or.inl (zt5 (i := 18) (by decide +kernel) rfl)⟩, (zt5 (i := 19) (by decide +kernel) rfl), (zt5 (i := 20) (by decide +kernel) rfl)⟩
theorem kL_62 : zCallV RL 62 MX7_knock 1 := ⟨⟨(zt5 (i := 27) (by decide +kernel) rfl), (zt1 (i := 8) (by decide +kernel) rfl), ⟨by decide +kernel, by decide +kernel, by decide +kernel⟩, by decide, Or.inl (zt5 (i := 24) (by decide +kernel) rfl)⟩, (zt5 (i := 25) (by decide +kernel) rfl), (zt5 (i := 26) (by decide +kernel) rfl)⟩
theorem kL_66 : zCallV RL 66 MX7_day 1 := ⟨⟨(zt5 (i := 31) (by decide +kernel) rfl), (zt1 (i := 8) (by decide +kernel) rfl), ⟨by decide +kernel, by decide +kernel, by decide +kernel⟩, by decide, Or.inl (zt5 (i := 28) (by decide +kernel) rfl)⟩, (zt5 (i := 29) (by decide +kernel) rfl), (zt5 (i := 30) (by decide +kernel) rfl)⟩
theorem kX7_208 : zCallV RX7 208 MX7_pass 1 := ⟨⟨(zt5 (i := 37) (by decide +kernel) rfl), (zt1 (i := 8) (by decide +kernel) rfl), ⟨by decide +kernel, by decide +kernel, by decide +kernel⟩, by decide, Or.inl (zt5 (i := 34) (by decide +kernel) rfl)⟩, (zt5 (i := 36) (by decide +kernel) rfl), (ztp (i := 77) (by decide +kernel) rfl)⟩
theorem kX7_201 : zCallV RX7 201 MX7_rate 2 := ⟨⟨(zt5 (i := 41) (by decide +kernel) rfl), (zt1 (i := 8) (by decide +kernel) rfl), ⟨by decide +kernel, by decide +kernel, by decide +kernel⟩, by decide, Or.inl (zt5 (i := 38) (by decide +kernel) rfl)⟩, (zt5 (i := 40) (by decide +kernel) rfl), (ztp (i := 78) (by decide +kernel) rfl)⟩
theorem kX7_212 : zCallV RX7 212 MX7_softYards 0 := ⟨⟨(zt5 (i := 45) (by decide +kernel) rfl), (zt1 (i := 8) (by decide +kernel) rfl), ⟨by decide +kernel, by decide +kernel, by decide +kernel⟩, by decide, Or.inl (zt5 (i := 42) (by decide +kernel) rfl)⟩, (zt5 (i := 44) (by decide +kernel) rfl), (ztp (i := 79) (by decide +kernel) rfl)⟩
theorem kL_70 : zCallV RL 70 MX7_rats 2 := ⟨⟨(zt5 (i := 49) (by decide +kernel) rfl), (zt1 (i := 8) (by decide +kernel) rfl), ⟨by decide +kernel, by decide +kernel, by decide +kernel⟩, by decide, Or.inl (zt5 (i := 46) (by decide +kernel) rfl)⟩, (zt5 (i := 47) (by decide +kernel) rfl), (zt5 (i := 48) (by decide +kernel) rfl)⟩
theorem kX7_227 : zCallV RX7 227 MX7_gnaw 1 := ⟨⟨(zt5 (i := 54) (by decide +kernel) rfl), (zt1 (i := 8) (by decide +kernel) rfl), ⟨by decide +kernel, by decide +kernel, by decide +kernel⟩, by decide, Or.inl (zt5 (i := 51) (by decide +kernel) rfl)⟩, (zt5 (i := 53) (by decide +kernel) rfl), (ztp (i := 80) (by decide +kernel) rfl)⟩
theorem kX7_222 : zCallV RX7 222 MX7_draw 1 := ⟨⟨(zt5 (i := 58) (by decide +kernel) rfl), (zt1 (i := 8) (by decide +kernel) rfl), ⟨by decide +kernel, by decide +kernel, by decide +kernel⟩, by decide, Or.inl (zt5 (i := 55) (by decide +kernel) rfl)⟩, (zt5 (i := 57) (by decide +kernel) rfl), (ztp (i := 81) (by decide +kernel) rfl)⟩
theorem kL_74 : zCallV RL 74 MX7_lay 2 := ⟨⟨(zt5 (i := 66) (by decide +kernel) rfl), (zt1 (i := 8) (by decide +kernel) rfl), ⟨by decide +kernel, by decide +kernel, by decide +kernel⟩, by decide, Or.inl (zt5 (i := 63) (by decide +kernel) rfl)⟩, (zt5 (i := 64) (by decide +kernel) rfl), (zt5 (i := 65) (by decide +kernel) rfl)⟩
theorem kX7_230 : zCallV RX7 230 MX7_layIn 3 := ⟨⟨(zt5 (i := 70) (by decide +kernel) rfl), (zt1 (i := 8) (by decide +kernel) rfl), ⟨by decide +kernel, by decide +kernel, by decide +kernel⟩, by decide, Or.inl (zt5 (i := 67) (by decide +kernel) rfl)⟩, (zt5 (i := 69) (by decide +kernel) rfl), (ztp (i := 82) (by decide +kernel) rfl)⟩
theorem kL_78 : zCallV RL 78 MX7_spring 2 := ⟨⟨(zt5 (i := 74) (by decide +kernel) rfl), (zt1 (i := 8) (by decide +kernel) rfl), ⟨by decide +kernel, by decide +kernel, by decide +kernel⟩, by decide, Or.inl (zt5 (i := 71) (by decide +kernel) rfl)⟩, (zt5 (i := 72) (by decide +kernel) rfl), (zt5 (i := 73) (by decide +kernel) rfl)⟩
theorem kX7_233 : zCallV RX7 233 MX7_leastSoft 0 := ⟨⟨(zt5 (i := 78) (by decide +kernel) rfl), (zt1 (i := 8) (by decide +kernel) rfl), ⟨by decide +kernel, by decide +kernel, by decide +kernel⟩, by decide, Or.inl (zt5 (i := 75) (by decide +kernel) rfl)⟩, (zt5 (i := 77) (by decide +kernel) rfl), (ztp (i := 83) (by decide +kernel) rfl)⟩
theorem kX7_236 : zCallS RX7 236 MX7_ones 1 := ⟨⟨(zt5 (i := 81) (by decide +kernel) rfl), (zt1 (i := 8) (by decide +kernel) rfl), ⟨by decide +kernel, by decide +kernel, by decide +kernel⟩, by decide, Or.inl (zt5 (i := 79) (by decide +kernel) rfl)⟩, (zt5 (i := 80) (by decide +kernel) rfl)⟩
theorem kL_82 : zCallV RL 82 MX7_offended 1 := ⟨⟨(zt5 (i := 85) (by decide +kernel) rfl), (zt1 (i := 8) (by decide +kernel) rfl), ⟨by decide +kernel, by decide +kernel, by decide +kernel⟩, by decide, Or.inl (zt5 (i := 82) (by decide +kernel) rfl)⟩, (zt5 (i := 83) (by decide +kernel) rfl), (zt5 (i := 84) (by decide +kernel) rfl)⟩
theorem kX7_239 : zCallV RX7 239 MX7_offends 3 := ⟨⟨(zt5 (i := 89) (by decide +kernel) rfl), (zt1 (i := 8) (by decide +kernel) rfl), ⟨by decide +kernel, by decide +kernel, by decide +kernel⟩, by decide, Or.inl (zt5 (i := 86) (by decide +kernel) rfl)⟩, (zt5 (i := 88) (by decide +kernel) rfl), (ztp (i := 84) (by decide +kernel) rfl)⟩
theorem kL_86 : zCallV RL 86 MX7_quarrels 0 := ⟨⟨(zt5 (i := 93) (by decide +kernel) rfl), (zt1 (i := 8) (by decide +kernel) rfl), ⟨by decide +kernel, by decide +kernel, by decide +kernel⟩, by decide, Or.inl (zt5 (i := 90) (by decide +kernel) rfl)⟩, (zt5 (i := 91) (by decide +kernel) rfl), (zt5 (i := 92) (by decide +kernel) rfl)⟩
theorem kX7_245 : zCallV RX7 245 MX7_quarrelsIn 1 := ⟨⟨(zt5 (i := 97) (by decide +kernel) rfl), (zt1 (i := 8) (by decide +kernel) rfl), ⟨by decide +kernel, by decide +kernel, by decide +kernel⟩, by decide, Or.inl (zt5 (i := 94) (by decide +kernel) rfl)⟩, (zt5 (i := 96) (by decide +kernel) rfl), (ztp (i := 85) (by decide +kernel) rfl)⟩
theorem kX7_242 : zCallS RX7 242 MX7_size 1 := ⟨⟨(zt5 (i := 100) (by decide +kernel) rfl), (zt1 (i := 8) (by decide +kernel) rfl), ⟨by decide +kernel, by decide +kernel, by decide +kernel⟩, by decide, Or.inl (zt5 (i := 98) (by decide +kernel) rfl)⟩, (zt5 (i := 99) (by decide +kernel) rfl)⟩
theorem kL_90 : zCallV RL 90 MX7_laying 1 := ⟨⟨(zt5 (i := 104) (by decide +kernel) rfl), (zt1 (i := 8) (by decide +kernel) rfl), ⟨by decide +kernel, by decide +kernel, by decide +kernel⟩, by decide, Or.inl (zt5 (i := 101) (by decide +kernel) rfl)⟩, (zt5 (i := 102) (by decide +kernel) rfl), (zt5 (i := 103) (by decide +kernel) rfl)⟩
theorem kX7_267 : zCallV RX7 267 MX7_findLaying 0 := ⟨⟨(zt5 (i := 108) (by decide +kernel) rfl), (zt1 (i := 8) (by decide +kernel) rfl), ⟨by decide +kernel, by decide +kernel, by decide +kernel⟩, by decide, Or.inl (zt5 (i := 105) (by decide +kernel) rfl)⟩, (zt5 (i := 107) (by decide +kernel) rfl), (ztp (i := 86) (by decide +kernel) rfl)⟩
theorem kX7_257 : zCallV RX7 257 MX7_copy 2 := ⟨⟨(zt5 (i := 112) (by decide +kernel) rfl), (zt1 (i := 8) (by decide +kernel) rfl), ⟨by decide +kernel, by decide +kernel, by decide +kernel⟩, by decide, Or.inl (zt5 (i := 109) (by decide +kernel) rfl)⟩, (zt5 (i := 111) (by decide +kernel) rfl), (ztp (i := 87) (by decide +kernel) rfl)⟩
theorem kX7_254 : zCallV RX7 254 MX7_isFree 1 := ⟨⟨(zt5 (i := 116) (by decide +kernel) rfl), (zt1 (i := 8) (by decide +kernel) rfl), ⟨by decide +kernel, by decide +kernel, by decide +kernel⟩, by decide, Or.inl (zt5 (i := 113) (by decide +kernel) rfl)⟩, (zt5 (i := 115) (by decide +kernel) rfl), (ztp (i := 88) (by decide +kernel) rfl)⟩
theorem kX7_251 : zCallV RX7 251 MX7_fill 2 := ⟨⟨(zt5 (i := 120) (by decide +kernel) rfl), (zt1 (i := 8) (by decide +kernel) rfl), ⟨by decide +kernel, by decide +kernel, by decide +kernel⟩, by decide, Or.inl (zt5 (i := 117) (by decide +kernel) rfl)⟩, (zt5 (i := 119) (by decide +kernel) rfl), (ztp (i := 89) (by decide +kernel) rfl)⟩
theorem kX7_248 : zCallV RX7 248 MX7_isUnlike 1 := ⟨⟨(zt5 (i := 124) (by decide +kernel) rfl), (zt1 (i := 8) (by decide +kernel) rfl), ⟨by decide +kernel, by decide +kernel, by decide +kernel⟩, by decide, Or.inl (zt5 (i := 121) (by decide +kernel) rfl)⟩, (zt5 (i := 123) (by decide +kernel) rfl), (ztp (i := 90) (by decide +kernel) rfl)⟩
theorem kX7_264 : zCallV RX7 264 MX7_goOn 1 := ⟨⟨(zt5 (i := 128) (by decide +kernel) rfl), (zt1 (i := 8) (by decide +kernel) rfl), ⟨by decide +kernel, by decide +kernel, by decide +kernel⟩, by decide, Or.inl (zt5 (i := 125) (by decide +kernel) rfl)⟩, (zt5 (i := 127) (by decide +kernel) rfl), (ztp (i := 91) (by decide +kernel) rfl)⟩
theorem kL_94 : zCallV RL 94 MX7_when 2 := ⟨⟨(zt5 (i := 132) (by decide +kernel) rfl), (zt1 (i := 8) (by decide +kernel) rfl), ⟨by decide +kernel, by decide +kernel, by decide +kernel⟩, by decide, Or.inl (zt5 (i := 129) (by decide +kernel) rfl)⟩, (zt5 (i := 130) (by decide +kernel) rfl), (zt5 (i := 131) (by decide +kernel) rfl)⟩
theorem kX7_274 : zCallV RX7 274 MX7_whenSoft 2 := ⟨⟨(zt5 (i := 136) (by decide +kernel) rfl), (zt1 (i := 8) (by decide +kernel) rfl), ⟨by decide +kernel, by decide +kernel, by decide +kernel⟩, by decide, Or.inl (zt5 (i := 133) (by decide +kernel) rfl)⟩, (zt5 (i := 135) (by decide +kernel) rfl), (ztp (i := 92) (by decide +kernel) rfl)⟩
theorem kX7_271 : zCallV RX7 271 MX7_daysTill 2 := ⟨⟨(zt5 (i := 140) (by decide +kernel) rfl), (zt1 (i := 8) (by decide +kernel) rfl), ⟨by decide +kernel, by decide +kernel, by decide +kernel⟩, by decide, Or.inl (zt5 (i := 137) (by decide +kernel) rfl)⟩, (zt5 (i := 139) (by decide +kernel) rfl), (ztp (i := 93) (by decide +kernel) rfl)⟩
theorem kL_99 : zCallV RL 99 MX7_span 4 := ⟨⟨(zt5 (i := 144) (by decide +kernel) rfl), (zt1 (i := 8) (by decide +kernel) rfl), ⟨by decide +kernel, by decide +kernel, by decide +kernel⟩, by decide, Or.inl (zt5 (i := 141) (by decide +kernel) rfl)⟩, (zt5 (i := 142) (by decide +kernel) rfl), (zt5 (i := 143) (by decide +kernel) rfl)⟩
theorem kL_103 : zCallV RL 103 MX7_bribe 2 := ⟨⟨(zt5 (i := 148) (by decide +kernel) rfl), (zt1 (i := 8) (by decide +kernel) rfl), ⟨by decide +kernel, by decide +kernel, by decide +kernel⟩, by decide, Or.inl (zt5 (i := 145) (by decide +kernel) rfl)⟩, (zt5 (i := 146) (by decide +kernel) rfl), (zt5 (i := 147) (by decide +kernel) rfl)⟩
theorem kL_107 : zCallV RL 107 MX7_label 2 := ⟨⟨(zt5 (i := 153) (by decide +kernel) rfl), (zt1 (i := 8) (by decide +kernel) rfl), ⟨by decide +kernel, by decide +kernel, by decide +kernel⟩, by decide, Or.inl (zt5 (i := 150) (by decide +kernel) rfl)⟩, (zt5 (i := 151) (by decide +kernel) rfl), (zt5 (i := 152) (by decide +kernel) rfl)⟩
theorem kL_111 : zCallV RL 111 MX7_mark 2 := ⟨⟨(zt5 (i := 157) (by decide +kernel) rfl), (zt1 (i := 8) (by decide +kernel) rfl), ⟨by decide +kernel, by decide +kernel, by decide +kernel⟩, by decide, Or.inl (zt5 (i := 154) (by decide +kernel) rfl)⟩, (zt5 (i := 155) (by decide +kernel) rfl), (zt5 (i := 156) (by decide +kernel) rfl)⟩
theorem kL_115 : zCallV RL 115 MX7_fits 0 := ⟨⟨(zt5 (i := 161) (by decide +kernel) rfl), (zt1 (i := 8) (by decide +kernel) rfl), ⟨by decide +kernel, by decide +kernel, by decide +kernel⟩, by decide, Or.inl (zt5 (i := 158) (by decide +kernel) rfl)⟩, (zt5 (i := 159) (by decide +kernel) rfl), (zt5 (i := 160) (by decide +kernel) rfl)⟩
theorem kX7_282 : zCallV RX7 282 MX7_findNames 0 := ⟨⟨(zt5 (i := 165) (by decide +kernel) rfl), (zt1 (i := 8) (by decide +kernel) rfl), ⟨by decide +kernel, by decide +kernel, by decide +kernel⟩, by decide, Or.inl (zt5 (i := 162) (by decide +kernel) rfl)⟩, (zt5 (i := 164) (by decide +kernel) rfl), (ztp (i := 94) (by decide +kernel) rfl)⟩
theorem kX7_279 : zCallV RX7 279 MX7_ahead 1 := ⟨⟨(zt5 (i := 169) (by decide +kernel) rfl), (zt1 (i := 8) (by decide +kernel) rfl), ⟨by decide +kernel, by decide +kernel, by decide +kernel⟩, by decide, Or.inl (zt5 (i := 166) (by decide +kernel) rfl)⟩, (zt5 (i := 168) (by decide +kernel) rfl), (ztp (i := 95) (by decide +kernel) rfl)⟩
theorem kL_119 : zCallV RL 119 MX7_mixed 1 := ⟨⟨(zt5 (i := 173) (by decide +kernel) rfl), (zt1 (i := 8) (by decide +kernel) rfl), ⟨by decide +kernel, by decide +kernel, by decide +kernel⟩, by decide, Or.inl (zt5 (i := 170) (by decide +kernel) rfl)⟩, (zt5 (i := 171) (by decide +kernel) rfl), (zt5 (i := 172) (by decide +kernel) rfl)⟩
theorem kL_123 : zCallV RL 123 MX7_churches 1 := ⟨⟨(zt5 (i := 177) (by decide +kernel) rfl), (zt1 (i := 8) (by decide +kernel) rfl), ⟨by decide +kernel, by decide +kernel, by decide +kernel⟩, by decide, Or.inl (zt5 (i := 174) (by decide +kernel) rfl)⟩, (zt5 (i := 175) (by decide +kernel) rfl), (zt5 (i := 176) (by decide +kernel) rfl)⟩
theorem kL_127 : zCallV RL 127 MX7_write 2 := ⟨⟨(zt5 (i := 181) (by decide +kernel) rfl), (zt1 (i := 8) (by decide +kernel) rfl), ⟨by decide +kernel, by decide +kernel, by decide +kernel⟩, by decide, Or.inl (zt5 (i := 178) (by decide +kernel) rfl)⟩, (zt5 (i := 179) (by decide +kernel) rfl), (zt5 (i := 180) (by decide +kernel) rfl)⟩
theorem kL_131 : zCallV RL 131 MX7_tear 0 := ⟨⟨(zt5 (i := 185) (by decide +kernel) rfl), (zt1 (i := 8) (by decide +kernel) rfl), ⟨by decide +kernel, by decide +kernel, by decide +kernel⟩, by decide, Or.inl (zt5 (i := 182) (by decide +kernel) rfl)⟩, (zt5 (i := 183) (by decide +kernel) rfl), (zt5 (i := 184) (by decide +kernel) rfl)⟩
theorem kL_135 : zCallV RL 135 MX7_judge 0 := ⟨⟨(zt5 (i := 189) (by decide +kernel) rfl), (zt1 (i := 8) (by decide +kernel) rfl), ⟨by decide +kernel, by decide +kernel, by decide +kernel⟩, by decide, Or.inl (zt5 (i := 186) (by decide +kernel) rfl)⟩, (zt5 (i := 187) (by decide +kernel) rfl), (zt5 (i := 188) (by decide +kernel) rfl)⟩
theorem kL_139 : zCallV RL 139 MX7_seed 1 := ⟨⟨(zt5 (i := 193) (by decide +kernel) rfl), (zt1 (i := 8) (by decide +kernel) rfl), ⟨by decide +kernel, by decide +kernel, by decide +kernel⟩, by decide, Or.inl (zt5 (i := 190) (by decide +kernel) rfl)⟩, (zt5 (i := 191) (by decide +kernel) rfl), (zt5 (i := 192) (by decide +kernel) rfl)⟩
theorem kL_143 : zCallV RL 143 MX7_keep 1 := ⟨⟨(zt5 (i := 197) (by decide +kernel) rfl), (zt1 (i := 8) (by decide +kernel) rfl), ⟨by decide +kernel, by decide +kernel, by decide +kernel⟩, by decide, Or.inl (zt5 (i := 194) (by decide +kernel) rfl)⟩, (zt5 (i := 195) (by decide +kernel) rfl), (zt5 (i := 196) (by decide +kernel) rfl)⟩
theorem kL_147 : zCallV RL 147 MX7_goBack 1 := ⟨⟨(zt5 (i := 201) (by decide +kernel) rfl), (zt1 (i := 8) (by decide +kernel) rfl), ⟨by decide +kernel, by decide +kernel, by decide +kernel⟩, by decide, Or.inl (zt5 (i := 198) (by decide +kernel) rfl)⟩, (zt5 (i := 199) (by decide +kernel) rfl), (zt5 (i := 200) (by decide +kernel) rfl)⟩
theorem kX6_9 : zCallI RX6 9 MX5_init 0 := ⟨⟨(zt1 (i := 27) (by decide +kernel) rfl), (zt1 (i := 2) (by decide +kernel) rfl), ⟨by decide +kernel, by decide +kernel, by decide +kernel⟩, by decide, Or.inr ⟨"LoftGraves", List.mem_of_getElem? (i := 0) (by decide +kernel)⟩⟩, (zt1 (i := 26) (by decide +kernel) rfl), rfl, rfl⟩
theorem kX6_18 : zCallI RX6 18 MX1_init 0 := ⟨⟨(zt1 (i := 55) (by decide +kernel) rfl), (zt1 (i := 3) (by decide +kernel) rfl), ⟨by decide +kernel, by decide +kernel, by decide +kernel⟩, by decide, Or.inr ⟨"LoftGraves", List.mem_of_getElem? (i := 6) (by decide +kernel)⟩⟩, (zt1 (i := 54) (by decide +kernel) rfl), rfl, rfl⟩
theorem kX6_28 : zCallI RX6 28 MX3_init 0 := ⟨⟨(zt1 (i := 72) (by decide +kernel) rfl), (zt1 (i := 4) (by decide +kernel) rfl), ⟨by decide +kernel, by decide +kernel, by decide +kernel⟩, by decide, Or.inr ⟨"LoftGraves", List.mem_of_getElem? (i := 10) (by decide +kernel)⟩⟩, (zt1 (i := 71) (by decide +kernel) rfl), rfl, rfl⟩
theorem kX6_51 : zCallI RX6 51 MX0_init 0 := ⟨⟨(zt1 (i := 148) (by decide +kernel) rfl), (zt1 (i := 5) (by decide +kernel) rfl), ⟨by decide +kernel, by decide +kernel, by decide +kernel⟩, by decide, Or.inr ⟨"LoftGraves", List.mem_of_getElem? (i := 32) (by decide +kernel)⟩⟩, (zt1 (i := 147) (by decide +kernel) rfl), rfl, rfl⟩
theorem kX6_58 : zCallI RX6 58 MX4_init 0 := ⟨⟨(zt1 (i := 167) (by decide +kernel) rfl), (zt1 (i := 6) (by decide +kernel) rfl), ⟨by decide +kernel, by decide +kernel, by decide +kernel⟩, by decide, Or.inr ⟨"LoftGraves", List.mem_of_getElem? (i := 36) (by decide +kernel)⟩⟩, (zt1 (i := 166) (by decide +kernel) rfl), rfl, rfl⟩
theorem kX6_65 : zCallI RX6 65 MX2_init 0 := ⟨⟨(zt1 (i := 195) (by decide +kernel) rfl), (zt1 (i := 7) (by decide +kernel) rfl), ⟨by decide +kernel, by decide +kernel, by decide +kernel⟩, by decide, Or.inr ⟨"LoftGraves", List.mem_of_getElem? (i := 40) (by decide +kernel)⟩⟩, (zt1 (i := 194) (by decide +kernel) rfl), rfl, rfl⟩
theorem kX6_70 : zCallV RX6 70 MX1_add 1 := ⟨⟨(zt1 (i := 204) (by decide +kernel) rfl), (zt1 (i := 3) (by decide +kernel) rfl), ⟨by decide +kernel, by decide +kernel, by decide +kernel⟩, by decide, Or.inr ⟨"LoftGraves", List.mem_of_getElem? (i := 41) (by decide +kernel)⟩⟩, (zt1 (i := 203) (by decide +kernel) rfl), (ztp (i := 0) (by decide +kernel) rfl)⟩
theorem kX1_19 : zCallS RX1 19 MX6_put 3 := ⟨⟨(zt1 (i := 207) (by decide +kernel) rfl), (zt1 (i := 1) (by decide +kernel) rfl), ⟨by decide +kernel, by decide +kernel, by decide +kernel⟩, by decide, Or.inr ⟨"LoftGraves", List.mem_of_getElem? (i := 42) (by decide +kernel)⟩⟩, (zt1 (i := 206) (by decide +kernel) rfl)⟩
theorem kX6_74 : zCallV RX6 74 MX3_settle 0 := ⟨⟨(zt1 (i := 211) (by decide +kernel) rfl), (zt1 (i := 4) (by decide +kernel) rfl), ⟨by decide +kernel, by decide +kernel, by decide +kernel⟩, by decide, Or.inr ⟨"LoftGraves", List.mem_of_getElem? (i := 43) (by decide +kernel)⟩⟩, (zt1 (i := 210) (by decide +kernel) rfl), (ztp (i := 1) (by decide +kernel) rfl)⟩
theorem kX3_110 : zCallS RX3 110 MX6_put 3 := ⟨⟨(zt1 (i := 207) (by decide +kernel) rfl), (zt1 (i := 1) (by decide +kernel) rfl), ⟨by decide +kernel, by decide +kernel, by decide +kernel⟩, by decide, Or.inr ⟨"LoftGraves", List.mem_of_getElem? (i := 44) (by decide +kernel)⟩⟩, (zt1 (i := 206) (by decide +kernel) rfl)⟩
theorem kX3_114 : zCallS RX3 114 MX6_allBelow 1 := ⟨⟨(zt1 (i := 215) (by decide +kernel) rfl), (zt1 (i := 1) (by decide +kernel) rfl), ⟨by decide +kernel, by decide +kernel, by decide +kernel⟩, by decide, Or.inr ⟨"LoftGraves", List.mem_of_getElem? (i := 45) (by decide +kernel)⟩⟩, (zt1 (i := 214) (by decide +kernel) rfl)⟩
theorem kX6_83 : zCallV RX6 83 MX5_append 1 := ⟨⟨(zt2 (i := 25) (by decide +kernel) rfl), (zt1 (i := 2) (by decide +kernel) rfl), ⟨by decide +kernel, by decide +kernel, by decide +kernel⟩, by decide, Or.inr ⟨"LoftGraves", List.mem_of_getElem? (i := 46) (by decide +kernel)⟩⟩, (zt2 (i := 24) (by decide +kernel) rfl), (ztp (i := 2) (by decide +kernel) rfl)⟩
theorem kX6_86 : zCallV RX6 86 MX3_readFrom 1 := ⟨⟨(zt2 (i := 33) (by decide +kernel) rfl), (zt1 (i := 4) (by decide +kernel) rfl), ⟨by decide +kernel, by decide +kernel, by decide +kernel⟩, by decide, Or.inr ⟨"LoftGraves", List.mem_of_getElem? (i := 47) (by decide +kernel)⟩⟩, (zt2 (i := 32) (by decide +kernel) rfl), (ztp (i := 3) (by decide +kernel) rfl)⟩
theorem kX3_65 : zCallV RX3 65 MX5_begin 0 := ⟨⟨(zt2 (i := 37) (by decide +kernel) rfl), (zt1 (i := 2) (by decide +kernel) rfl), ⟨by decide +kernel, by decide +kernel, by decide +kernel⟩, by decide, Or.inr ⟨"LoftGraves", List.mem_of_getElem? (i := 48) (by decide +kernel)⟩⟩, (zt2 (i := 36) (by decide +kernel) rfl), (ztp (i := 4) (by decide +kernel) rfl)⟩
theorem kX3_70 : zCallV RX3 70 MX5_goesOn 0 := ⟨⟨(zt2 (i := 41) (by decide +kernel) rfl), (zt1 (i := 2) (by decide +kernel) rfl), ⟨by decide +kernel, by decide +kernel, by decide +kernel⟩, by decide, Or.inr ⟨"LoftGraves", List.mem_of_getElem? (i := 49) (by decide +kernel)⟩⟩, (zt2 (i := 40) (by decide +kernel) rfl), (ztp (i := 5) (by decide +kernel) rfl)⟩
theorem kX3_82 : zCallV RX3 82 MX5_takeWord 1 := ⟨⟨(zt2 (i := 58) (by decide +kernel) rfl), (zt1 (i := 2) (by decide +kernel) rfl), ⟨by decide +kernel, by decide +kernel, by decide +kernel⟩, by decide, Or.inr ⟨"LoftGraves", List.mem_of_getElem? (i := 50) (by decide +kernel)⟩⟩, (zt2 (i := 57) (by decide +kernel) rfl), (ztp (i := 9) (by decide +kernel) rfl)⟩
theorem kX3_99 : zCallV RX3 99 MX5_blame 2 := ⟨⟨(zt2 (i := 114) (by decide +kernel) rfl), (zt1 (i := 2) (by decide +kernel) rfl), ⟨by decide +kernel, by decide +kernel, by decide +kernel⟩, by decide, Or.inr ⟨"LoftGraves", List.mem_of_getElem? (i := 51) (by decide +kernel)⟩⟩, (zt2 (i := 113) (by decide +kernel) rfl), (ztp (i := 11) (by decide +kernel) rfl)⟩
theorem kX3_103 : zCallV RX3 103 MX5_takeNumber 2 := ⟨⟨(zt2 (i := 118) (by decide +kernel) rfl), (zt1 (i := 2) (by decide +kernel) rfl), ⟨by decide +kernel, by decide +kernel, by decide +kernel⟩, by decide, Or.inr ⟨"LoftGraves", List.mem_of_getElem? (i := 52) (by decide +kernel)⟩⟩, (zt2 (i := 117) (by decide +kernel) rfl), (ztp (i := 12) (by decide +kernel) rfl)⟩
theorem kX3_107 : zCallV RX3 107 MX5_takeStop 0 := ⟨⟨(zt2 (i := 123) (by decide +kernel) rfl), (zt1 (i := 2) (by decide +kernel) rfl), ⟨by decide +kernel, by decide +kernel, by decide +kernel⟩, by decide, Or.inr ⟨"LoftGraves", List.mem_of_getElem? (i := 53) (by decide +kernel)⟩⟩, (zt2 (i := 122) (by decide +kernel) rfl), (ztp (i := 13) (by decide +kernel) rfl)⟩
theorem kX6_96 : zCallV RX6 96 MX3_copyFrom 1 := ⟨⟨(zt2 (i := 137) (by decide +kernel) rfl), (zt1 (i := 4) (by decide +kernel) rfl), ⟨by decide +kernel, by decide +kernel, by decide +kernel⟩, by decide, Or.inr ⟨"LoftGraves", List.mem_of_getElem? (i := 54) (by decide +kernel)⟩⟩, (zt2 (i := 136) (by decide +kernel) rfl), (ztp (i := 16) (by decide +kernel) rfl)⟩
theorem kX3_61 : zCallS RX3 61 MX6_copyRow 2 := ⟨⟨(zt2 (i := 140) (by decide +kernel) rfl), (zt1 (i := 1) (by decide +kernel) rfl), ⟨by decide +kernel, by decide +kernel, by decide +kernel⟩, by decide, Or.inr ⟨"LoftGraves", List.mem_of_getElem? (i := 55) (by decide +kernel)⟩⟩, (zt2 (i := 139) (by decide +kernel) rfl)⟩
theorem kX6_106 : zCallV RX6 106 MX1_readFrom 1 := ⟨⟨(zt2 (i := 152) (by decide +kernel) rfl), (zt1 (i := 3) (by decide +kernel) rfl), ⟨by decide +kernel, by decide +kernel, by decide +kernel⟩, by decide, Or.inr ⟨"LoftGraves", List.mem_of_getElem? (i := 56) (by decide +kernel)⟩⟩, (zt2 (i := 151) (by decide +kernel) rfl), (ztp (i := 17) (by decide +kernel) rfl)⟩
theorem kX1_31 : zCallV RX1 31 MX5_begin 0 := ⟨⟨(zt2 (i := 37) (by decide +kernel) rfl), (zt1 (i := 2) (by decide +kernel) rfl), ⟨by decide +kernel, by decide +kernel, by decide +kernel⟩, by decide, Or.inr ⟨"LoftGraves", List.mem_of_getElem? (i := 57) (by decide +kernel)⟩⟩, (zt2 (i := 36) (by decide +kernel) rfl), (ztp (i := 4) (by decide +kernel) rfl)⟩
theorem kX1_36 : zCallV RX1 36 MX5_goesOn 0 := ⟨⟨(zt2 (i := 41) (by decide +kernel) rfl), (zt1 (i := 2) (by decide +kernel) rfl), ⟨by decide +kernel, by decide +kernel, by decide +kernel⟩, by decide, Or.inr ⟨"LoftGraves", List.mem_of_getElem? (i := 58) (by decide +kernel)⟩⟩, (zt2 (i := 40) (by decide +kernel) rfl), (ztp (i := 5) (by decide +kernel) rfl)⟩
theorem kX1_49 : zCallV RX1 49 MX5_takeWord 1 := ⟨⟨(zt2 (i := 58) (by decide +kernel) rfl), (zt1 (i := 2) (by decide +kernel) rfl), ⟨by decide +kernel, by decide +kernel, by decide +kernel⟩, by decide, Or.inr ⟨"LoftGraves", List.mem_of_getElem? (i := 59) (by decide +kernel)⟩⟩, (zt2 (i := 57) (by decide +kernel) rfl), (ztp (i := 9) (by decide +kernel) rfl)⟩
theorem kX1_59 : zCallV RX1 59 MX5_blame 2 := ⟨⟨(zt2 (i := 114) (by decide +kernel) rfl), (zt1 (i := 2) (by decide +kernel) rfl), ⟨by decide +kernel, by decide +kernel, by decide +kernel⟩, by decide, Or.inr ⟨"LoftGraves", List.mem_of_getElem? (i := 60) (by decide +kernel)⟩⟩, (zt2 (i := 113) (by decide +kernel) rfl), (ztp (i := 11) (by decide +kernel) rfl)⟩
theorem kX1_23 : zCallS RX1 23 MX6_at 2 := ⟨⟨(zt2 (i := 143) (by decide +kernel) rfl), (zt1 (i := 1) (by decide +kernel) rfl), ⟨by decide +kernel, by decide +kernel, by decide +kernel⟩, by decide, Or.inr ⟨"LoftGraves", List.mem_of_getElem? (i := 61) (by decide +kernel)⟩⟩, (zt2 (i := 142) (by decide +kernel) rfl)⟩
theorem kX1_71 : zCallV RX1 71 MX5_takeStop 0 := ⟨⟨(zt2 (i := 123) (by decide +kernel) rfl), (zt1 (i := 2) (by decide +kernel) rfl), ⟨by decide +kernel, by decide +kernel, by decide +kernel⟩, by decide, Or.inr ⟨"LoftGraves", List.mem_of_getElem? (i := 62) (by decide +kernel)⟩⟩, (zt2 (i := 122) (by decide +kernel) rfl), (ztp (i := 13) (by decide +kernel) rfl)⟩
theorem kX6_107 : zCallV RX6 107 MX1_copyFrom 1 := ⟨⟨(zt2 (i := 175) (by decide +kernel) rfl), (zt1 (i := 3) (by decide +kernel) rfl), ⟨by decide +kernel, by decide +kernel, by decide +kernel⟩, by decide, Or.inr ⟨"LoftGraves", List.mem_of_getElem? (i := 63) (by decide +kernel)⟩⟩, (zt2 (i := 174) (by decide +kernel) rfl), (ztp (i := 20) (by decide +kernel) rfl)⟩
theorem kX1_27 : zCallS RX1 27 MX6_copyRow 2 := ⟨⟨(zt2 (i := 140) (by decide +kernel) rfl), (zt1 (i := 1) (by decide +kernel) rfl), ⟨by decide +kernel, by decide +kernel, by decide +kernel⟩, by decide, Or.inr ⟨"LoftGraves", List.mem_of_getElem? (i := 64) (by decide +kernel)⟩⟩, (zt2 (i := 139) (by decide +kernel) rfl)⟩
theorem kX6_123 : zCallV RX6 123 MX3_waiting 0 := ⟨⟨(zt2 (i := 188) (by decide +kernel) rfl), (zt1 (i := 4) (by decide +kernel) rfl), ⟨by decide +kernel, by decide +kernel, by decide +kernel⟩, by decide, Or.inr ⟨"LoftGraves", List.mem_of_getElem? (i := 65) (by decide +kernel)⟩⟩, (zt2 (i := 187) (by decide +kernel) rfl), (ztp (i := 21) (by decide +kernel) rfl)⟩
theorem kX3_118 : zCallS RX3 118 MX6_at 2 := ⟨⟨(zt2 (i := 143) (by decide +kernel) rfl), (zt1 (i := 1) (by decide +kernel) rfl), ⟨by decide +kernel, by decide +kernel, by decide +kernel⟩, by decide, Or.inr ⟨"LoftGraves", List.mem_of_getElem? (i := 66) (by decide +kernel)⟩⟩, (zt2 (i := 142) (by decide +kernel) rfl)⟩
theorem kX3_122 : zCallS RX3 122 MX6_bit 1 := ⟨⟨(zt1 (i := 218) (by decide +kernel) rfl), (zt1 (i := 1) (by decide +kernel) rfl), ⟨by decide +kernel, by decide +kernel, by decide +kernel⟩, by decide, Or.inr ⟨"LoftGraves", List.mem_of_getElem? (i := 67) (by decide +kernel)⟩⟩, (zt1 (i := 217) (by decide +kernel) rfl)⟩
theorem kX6_127 : zCallV RX6 127 MX3_laid 0 := ⟨⟨(zt2 (i := 192) (by decide +kernel) rfl), (zt1 (i := 4) (by decide +kernel) rfl), ⟨by decide +kernel, by decide +kernel, by decide +kernel⟩, by decide, Or.inr ⟨"LoftGraves", List.mem_of_getElem? (i := 68) (by decide +kernel)⟩⟩, (zt2 (i := 191) (by decide +kernel) rfl), (ztp (i := 22) (by decide +kernel) rfl)⟩
theorem kX6_133 : zCallV RX6 133 MX3_hasYard 1 := ⟨⟨(zt2 (i := 203) (by decide +kernel) rfl), (zt1 (i := 4) (by decide +kernel) rfl), ⟨by decide +kernel, by decide +kernel, by decide +kernel⟩, by decide, Or.inr ⟨"LoftGraves", List.mem_of_getElem? (i := 69) (by decide +kernel)⟩⟩, (zt2 (i := 202) (by decide +kernel) rfl), (ztp (i := 23) (by decide +kernel) rfl)⟩
theorem kX6_146 : zCallV RX6 146 MX3_whoLiesIn 1 := ⟨⟨(zt2 (i := 208) (by decide +kernel) rfl), (zt1 (i := 4) (by decide +kernel) rfl), ⟨by decide +kernel, by decide +kernel, by decide +kernel⟩, by decide, Or.inr ⟨"LoftGraves", List.mem_of_getElem? (i := 70) (by decide +kernel)⟩⟩, (zt2 (i := 207) (by decide +kernel) rfl), (ztp (i := 24) (by decide +kernel) rfl)⟩
theorem kX6_150 : zCallV RX6 150 MX3_hasDead 1 := ⟨⟨(zt2 (i := 216) (by decide +kernel) rfl), (zt1 (i := 4) (by decide +kernel) rfl), ⟨by decide +kernel, by decide +kernel, by decide +kernel⟩, by decide, Or.inr ⟨"LoftGraves", List.mem_of_getElem? (i := 71) (by decide +kernel)⟩⟩, (zt2 (i := 215) (by decide +kernel) rfl), (ztp (i := 25) (by decide +kernel) rfl)⟩
theorem kX6_184 : zCallV RX6 184 MX3_placeAmong 3 := ⟨⟨(zt2 (i := 227) (by decide +kernel) rfl), (zt1 (i := 4) (by decide +kernel) rfl), ⟨by decide +kernel, by decide +kernel, by decide +kernel⟩, by decide, Or.inr ⟨"LoftGraves", List.mem_of_getElem? (i := 72) (by decide +kernel)⟩⟩, (zt2 (i := 226) (by decide +kernel) rfl), (ztp (i := 26) (by decide +kernel) rfl)⟩
theorem kX3_138 : zCallS RX3 138 MX6_has 2 := ⟨⟨(zt2 (i := 219) (by decide +kernel) rfl), (zt1 (i := 1) (by decide +kernel) rfl), ⟨by decide +kernel, by decide +kernel, by decide +kernel⟩, by decide, Or.inr ⟨"LoftGraves", List.mem_of_getElem? (i := 73) (by decide +kernel)⟩⟩, (zt2 (i := 218) (by decide +kernel) rfl)⟩
theorem kX6_202 : zCallV RX6 202 MX3_passDay 1 := ⟨⟨(zt3 (i := 28) (by decide +kernel) rfl), (zt1 (i := 4) (by decide +kernel) rfl), ⟨by decide +kernel, by decide +kernel, by decide +kernel⟩, by decide, Or.inr ⟨"LoftGraves", List.mem_of_getElem? (i := 74) (by decide +kernel)⟩⟩, (zt3 (i := 27) (by decide +kernel) rfl), (ztp (i := 30) (by decide +kernel) rfl)⟩
theorem kX6_205 : zCallV RX6 205 MX3_soft 0 := ⟨⟨(zt3 (i := 45) (by decide +kernel) rfl), (zt1 (i := 4) (by decide +kernel) rfl), ⟨by decide +kernel, by decide +kernel, by decide +kernel⟩, by decide, Or.inr ⟨"LoftGraves", List.mem_of_getElem? (i := 75) (by decide +kernel)⟩⟩, (zt3 (i := 44) (by decide +kernel) rfl), (ztp (i := 33) (by decide +kernel) rfl)⟩
theorem kX6_208 : zCallV RX6 208 MX3_passNight 1 := ⟨⟨(zt3 (i := 53) (by decide +kernel) rfl), (zt1 (i := 4) (by decide +kernel) rfl), ⟨by decide +kernel, by decide +kernel, by decide +kernel⟩, by decide, Or.inr ⟨"LoftGraves", List.mem_of_getElem? (i := 76) (by decide +kernel)⟩⟩, (zt3 (i := 52) (by decide +kernel) rfl), (ztp (i := 34) (by decide +kernel) rfl)⟩
theorem kX6_211 : zCallV RX6 211 MX3_boardless 0 := ⟨⟨(zt3 (i := 65) (by decide +kernel) rfl), (zt1 (i := 4) (by decide +kernel) rfl), ⟨by decide +kernel, by decide +kernel, by decide +kernel⟩, by decide, Or.inr ⟨"LoftGraves", List.mem_of_getElem? (i := 77) (by decide +kernel)⟩⟩, (zt3 (i := 64) (by decide +kernel) rfl), (ztp (i := 36) (by decide +kernel) rfl)⟩
theorem kX6_214 : zCallV RX6 214 MX3_taken 0 := ⟨⟨(zt3 (i := 32) (by decide +kernel) rfl), (zt1 (i := 4) (by decide +kernel) rfl), ⟨by decide +kernel, by decide +kernel, by decide +kernel⟩, by decide, Or.inr ⟨"LoftGraves", List.mem_of_getElem? (i := 78) (by decide +kernel)⟩⟩, (zt3 (i := 31) (by decide +kernel) rfl), (ztp (i := 31) (by decide +kernel) rfl)⟩
theorem kX6_217 : zCallV RX6 217 MX3_layDown 2 := ⟨⟨(zt3 (i := 74) (by decide +kernel) rfl), (zt1 (i := 4) (by decide +kernel) rfl), ⟨by decide +kernel, by decide +kernel, by decide +kernel⟩, by decide, Or.inr ⟨"LoftGraves", List.mem_of_getElem? (i := 79) (by decide +kernel)⟩⟩, (zt3 (i := 73) (by decide +kernel) rfl), (ztp (i := 37) (by decide +kernel) rfl)⟩
theorem kX6_220 : zCallV RX6 220 MX3_draw 1 := ⟨⟨(zt3 (i := 57) (by decide +kernel) rfl), (zt1 (i := 4) (by decide +kernel) rfl), ⟨by decide +kernel, by decide +kernel, by decide +kernel⟩, by decide, Or.inr ⟨"LoftGraves", List.mem_of_getElem? (i := 80) (by decide +kernel)⟩⟩, (zt3 (i := 56) (by decide +kernel) rfl), (ztp (i := 35) (by decide +kernel) rfl)⟩
theorem kX6_231 : zCallV RX6 231 MX3_firstAmong 2 := ⟨⟨(zt3 (i := 87) (by decide +kernel) rfl), (zt1 (i := 4) (by decide +kernel) rfl), ⟨by decide +kernel, by decide +kernel, by decide +kernel⟩, by decide, Or.inr ⟨"LoftGraves", List.mem_of_getElem? (i := 81) (by decide +kernel)⟩⟩, (zt3 (i := 86) (by decide +kernel) rfl), (ztp (i := 39) (by decide +kernel) rfl)⟩
theorem kX6_235 : zCallV RX6 235 MX3_softAndFree 0 := ⟨⟨(zt3 (i := 92) (by decide +kernel) rfl), (zt1 (i := 4) (by decide +kernel) rfl), ⟨by decide +kernel, by decide +kernel, by decide +kernel⟩, by decide, Or.inr ⟨"LoftGraves", List.mem_of_getElem? (i := 82) (by decide +kernel)⟩⟩, (zt3 (i := 91) (by decide +kernel) rfl), (ztp (i := 40) (by decide +kernel) rfl)⟩
theorem kX6_241 : zCallV RX6 241 MX4_begin 2 := ⟨⟨(zt3 (i := 111) (by decide +kernel) rfl), (zt1 (i := 6) (by decide +kernel) rfl), ⟨by decide +kernel, by decide +kernel, by decide +kernel⟩, by decide, Or.inr ⟨"LoftGraves", List.mem_of_getElem? (i := 83) (by decide +kernel)⟩⟩, (zt3 (i := 110) (by decide +kernel) rfl), (ztp (i := 41) (by decide +kernel) rfl)⟩
theorem kX4_32 : zCallS RX4 32 MX6_put 3 := ⟨⟨(zt1 (i := 207) (by decide +kernel) rfl), (zt1 (i := 1) (by decide +kernel) rfl), ⟨by decide +kernel, by decide +kernel, by decide +kernel⟩, by decide, Or.inr ⟨"LoftGraves", List.mem_of_getElem? (i := 84) (by decide +kernel)⟩⟩, (zt1 (i := 206) (by decide +kernel) rfl)⟩
theorem kX4_36 : zCallV RX4 36 MX3_hasDead 1 := ⟨⟨(zt2 (i := 216) (by decide +kernel) rfl), (zt1 (i := 4) (by decide +kernel) rfl), ⟨by decide +kernel, by decide +kernel, by decide +kernel⟩, by decide, Or.inr ⟨"LoftGraves", List.mem_of_getElem? (i := 85) (by decide +kernel)⟩⟩, (zt2 (i := 215) (by decide +kernel) rfl), (ztp (i := 25) (by decide +kernel) rfl)⟩
theorem kX4_45 : zCallS RX4 45 MX6_at 2 := ⟨⟨(zt2 (i := 143) (by decide +kernel) rfl), (zt1 (i := 1) (by decide +kernel) rfl), ⟨by decide +kernel, by decide +kernel, by decide +kernel⟩, by decide, Or.inr ⟨"LoftGraves", List.mem_of_getElem? (i := 86) (by decide +kernel)⟩⟩, (zt2 (i := 142) (by decide +kernel) rfl)⟩
theorem kX4_49 : zCallV RX4 49 MX3_claim 2 := ⟨⟨(zt2 (i := 235) (by decide +kernel) rfl), (zt1 (i := 4) (by decide +kernel) rfl), ⟨by decide +kernel, by decide +kernel, by decide +kernel⟩, by decide, Or.inr ⟨"LoftGraves", List.mem_of_getElem? (i := 87) (by decide +kernel)⟩⟩, (zt2 (i := 234) (by decide +kernel) rfl), (ztp (i := 28) (by decide +kernel) rfl)⟩
theorem kX4_53 : zCallS RX4 53 MX6_bit 1 := ⟨⟨(zt1 (i := 218) (by decide +kernel) rfl), (zt1 (i := 1) (by decide +kernel) rfl), ⟨by decide +kernel, by decide +kernel, by decide +kernel⟩, by decide, Or.inr ⟨"LoftGraves", List.mem_of_getElem? (i := 88) (by decide +kernel)⟩⟩, (zt1 (i := 217) (by decide +kernel) rfl)⟩
theorem kX6_245 : zCallV RX6 245 MX4_whoOffends 1 := ⟨⟨(zt3 (i := 120) (by decide +kernel) rfl), (zt1 (i := 6) (by decide +kernel) rfl), ⟨by decide +kernel, by decide +kernel, by decide +kernel⟩, by decide, Or.inr ⟨"LoftGraves", List.mem_of_getElem? (i := 89) (by decide +kernel)⟩⟩, (zt3 (i := 119) (by decide +kernel) rfl), (ztp (i := 42) (by decide +kernel) rfl)⟩
theorem kX4_60 : zCallS RX4 60 MX6_has 2 := ⟨⟨(zt2 (i := 219) (by decide +kernel) rfl), (zt1 (i := 1) (by decide +kernel) rfl), ⟨by decide +kernel, by decide +kernel, by decide +kernel⟩, by decide, Or.inr ⟨"LoftGraves", List.mem_of_getElem? (i := 90) (by decide +kernel)⟩⟩, (zt2 (i := 218) (by decide +kernel) rfl)⟩
theorem kX6_248 : zCallV RX6 248 MX4_quarrelsNow 0 := ⟨⟨(zt3 (i := 133) (by decide +kernel) rfl), (zt1 (i := 6) (by decide +kernel) rfl), ⟨by decide +kernel, by decide +kernel, by decide +kernel⟩, by decide, Or.inr ⟨"LoftGraves", List.mem_of_getElem? (i := 91) (by decide +kernel)⟩⟩, (zt3 (i := 132) (by decide +kernel) rfl), (ztp (i := 44) (by decide +kernel) rfl)⟩
theorem kX6_251 : zCallV RX6 251 MX4_find 2 := ⟨⟨(zt3 (i := 152) (by decide +kernel) rfl), (zt1 (i := 6) (by decide +kernel) rfl), ⟨by decide +kernel, by decide +kernel, by decide +kernel⟩, by decide, Or.inr ⟨"LoftGraves", List.mem_of_getElem? (i := 92) (by decide +kernel)⟩⟩, (zt3 (i := 151) (by decide +kernel) rfl), (ztp (i := 47) (by decide +kernel) rfl)⟩
theorem kX4_92 : zCallS RX4 92 MX6_copyRow 2 := ⟨⟨(zt2 (i := 140) (by decide +kernel) rfl), (zt1 (i := 1) (by decide +kernel) rfl), ⟨by decide +kernel, by decide +kernel, by decide +kernel⟩, by decide, Or.inr ⟨"LoftGraves", List.mem_of_getElem? (i := 93) (by decide +kernel)⟩⟩, (zt2 (i := 139) (by decide +kernel) rfl)⟩
theorem kX6_264 : zCallV RX6 264 MX3_daysUntilSoft 2 := ⟨⟨(zt3 (i := 166) (by decide +kernel) rfl), (zt1 (i := 4) (by decide +kernel) rfl), ⟨by decide +kernel, by decide +kernel, by decide +kernel⟩, by decide, Or.inr ⟨"LoftGraves", List.mem_of_getElem? (i := 94) (by decide +kernel)⟩⟩, (zt3 (i := 165) (by decide +kernel) rfl), (ztp (i := 48) (by decide +kernel) rfl)⟩
theorem kX6_273 : zCallV RX6 273 MX2_countWays 1 := ⟨⟨(zt3 (i := 199) (by decide +kernel) rfl), (zt1 (i := 7) (by decide +kernel) rfl), ⟨by decide +kernel, by decide +kernel, by decide +kernel⟩, by decide, Or.inr ⟨"LoftGraves", List.mem_of_getElem? (i := 95) (by decide +kernel)⟩⟩, (zt3 (i := 198) (by decide +kernel) rfl), (ztp (i := 51) (by decide +kernel) rfl)⟩
theorem kX2_21 : zCallS RX2 21 MX6_allBelow 1 := ⟨⟨(zt1 (i := 215) (by decide +kernel) rfl), (zt1 (i := 1) (by decide +kernel) rfl), ⟨by decide +kernel, by decide +kernel, by decide +kernel⟩, by decide, Or.inr ⟨"LoftGraves", List.mem_of_getElem? (i := 96) (by decide +kernel)⟩⟩, (zt1 (i := 214) (by decide +kernel) rfl)⟩
theorem kX2_25 : zCallS RX2 25 MX6_put 3 := ⟨⟨(zt1 (i := 207) (by decide +kernel) rfl), (zt1 (i := 1) (by decide +kernel) rfl), ⟨by decide +kernel, by decide +kernel, by decide +kernel⟩, by decide, Or.inr ⟨"LoftGraves", List.mem_of_getElem? (i := 97) (by decide +kernel)⟩⟩, (zt1 (i := 206) (by decide +kernel) rfl)⟩
theorem kX2_37 : zCallS RX2 37 MX6_at 2 := ⟨⟨(zt2 (i := 143) (by decide +kernel) rfl), (zt1 (i := 1) (by decide +kernel) rfl), ⟨by decide +kernel, by decide +kernel, by decide +kernel⟩, by decide, Or.inr ⟨"LoftGraves", List.mem_of_getElem? (i := 98) (by decide +kernel)⟩⟩, (zt2 (i := 142) (by decide +kernel) rfl)⟩
theorem kX2_41 : zCallS RX2 41 MX6_has 2 := ⟨⟨(zt2 (i := 219) (by decide +kernel) rfl), (zt1 (i := 1) (by decide +kernel) rfl), ⟨by decide +kernel, by decide +kernel, by decide +kernel⟩, by decide, Or.inr ⟨"LoftGraves", List.mem_of_getElem? (i := 99) (by decide +kernel)⟩⟩, (zt2 (i := 218) (by decide +kernel) rfl)⟩
theorem kX2_45 : zCallS RX2 45 MX6_bit 1 := ⟨⟨(zt1 (i := 218) (by decide +kernel) rfl), (zt1 (i := 1) (by decide +kernel) rfl), ⟨by decide +kernel, by decide +kernel, by decide +kernel⟩, by decide, Or.inr ⟨"LoftGraves", List.mem_of_getElem? (i := 100) (by decide +kernel)⟩⟩, (zt1 (i := 217) (by decide +kernel) rfl)⟩
theorem kX6_277 : zCallV RX6 277 MX2_weigh 1 := ⟨⟨(zt3 (i := 213) (by decide +kernel) rfl), (zt1 (i := 7) (by decide +kernel) rfl), ⟨by decide +kernel, by decide +kernel, by decide +kernel⟩, by decide, Or.inr ⟨"LoftGraves", List.mem_of_getElem? (i := 101) (by decide +kernel)⟩⟩, (zt3 (i := 212) (by decide +kernel) rfl), (ztp (i := 52) (by decide +kernel) rfl)⟩
theorem kX6_280 : zCallV RX6 280 MX2_fewestChanges 0 := ⟨⟨(zt3 (i := 222) (by decide +kernel) rfl), (zt1 (i := 7) (by decide +kernel) rfl), ⟨by decide +kernel, by decide +kernel, by decide +kernel⟩, by decide, Or.inr ⟨"LoftGraves", List.mem_of_getElem? (i := 102) (by decide +kernel)⟩⟩, (zt3 (i := 221) (by decide +kernel) rfl), (ztp (i := 54) (by decide +kernel) rfl)⟩
theorem kX6_283 : zCallV RX6 283 MX2_nameOf 2 := ⟨⟨(zt3 (i := 226) (by decide +kernel) rfl), (zt1 (i := 7) (by decide +kernel) rfl), ⟨by decide +kernel, by decide +kernel, by decide +kernel⟩, by decide, Or.inr ⟨"LoftGraves", List.mem_of_getElem? (i := 103) (by decide +kernel)⟩⟩, (zt3 (i := 225) (by decide +kernel) rfl), (ztp (i := 55) (by decide +kernel) rfl)⟩
theorem kX6_287 : zCallV RX6 287 MX3_ranksOf 1 := ⟨⟨(zt3 (i := 234) (by decide +kernel) rfl), (zt1 (i := 4) (by decide +kernel) rfl), ⟨by decide +kernel, by decide +kernel, by decide +kernel⟩, by decide, Or.inr ⟨"LoftGraves", List.mem_of_getElem? (i := 104) (by decide +kernel)⟩⟩, (zt3 (i := 233) (by decide +kernel) rfl), (ztp (i := 56) (by decide +kernel) rfl)⟩
theorem kX6_293 : zCallV RX6 293 MX0_add 2 := ⟨⟨(zt4 (i := 3) (by decide +kernel) rfl), (zt1 (i := 5) (by decide +kernel) rfl), ⟨by decide +kernel, by decide +kernel, by decide +kernel⟩, by decide, Or.inr ⟨"LoftGraves", List.mem_of_getElem? (i := 105) (by decide +kernel)⟩⟩, (zt4 (i := 2) (by decide +kernel) rfl), (ztp (i := 57) (by decide +kernel) rfl)⟩
theorem kX0_22 : zCallS RX0 22 MX6_put 3 := ⟨⟨(zt1 (i := 207) (by decide +kernel) rfl), (zt1 (i := 1) (by decide +kernel) rfl), ⟨by decide +kernel, by decide +kernel, by decide +kernel⟩, by decide, Or.inr ⟨"LoftGraves", List.mem_of_getElem? (i := 106) (by decide +kernel)⟩⟩, (zt1 (i := 206) (by decide +kernel) rfl)⟩
theorem nwL_7 : zNw RL 7 6 12 [.null, .null, .null, .null, .null, .null, .null, .int 0, .int 0, .null, .null, .null] := ⟨RX6, TX6, tyX6, rfl, zlX6, ⟨tyX6_ok, nmX6⟩, (zt1 (i := 15) (by decide +kernel) rfl), (zt1 (i := 16) (by decide +kernel) rfl), (zt1 (i := 1) (by decide +kernel) rfl), fun j hj => by
  match j, hj with
  | 0, _ => rfl
  | 1, _ => rfl
  | 2, _ => rfl
  | 3, _ => rfl
  | 4, _ => rfl
  | 5, _ => rfl
  | 6, _ => rfl
  | 7, _ => rfl
  | 8, _ => rfl
  | 9, _ => rfl
  | 10, _ => rfl
  | 11, _ => rfl
  | j + 12, hj => exact absurd hj (by omega), fun g => rfl⟩
theorem nwX6_7 : zNw RX6 7 5 5 [.null, .int 0, .int 0, .int 0, .int 0] := ⟨RX5, TX5, tyX5, rfl, zlX5, ⟨tyX5_ok, nmX5⟩, (zt1 (i := 23) (by decide +kernel) rfl), (zt1 (i := 24) (by decide +kernel) rfl), (zt1 (i := 2) (by decide +kernel) rfl), fun j hj => by
  match j, hj with
  | 0, _ => rfl
  | 1, _ => rfl
  | 2, _ => rfl
  | 3, _ => rfl
  | 4, _ => rfl
  | j + 5, hj => exact absurd hj (by omega), fun g => rfl⟩
theorem nwX6_16 : zNw RX6 16 1 2 [.null, .int 0] := ⟨RX1, TX1, tyX1, rfl, zlX1, ⟨tyX1_ok, nmX1⟩, (zt1 (i := 51) (by decide +kernel) rfl), (zt1 (i := 52) (by decide +kernel) rfl), (zt1 (i := 3) (by decide +kernel) rfl), fun j hj => by
  match j, hj with
  | 0, _ => rfl
  | 1, _ => rfl
  | j + 2, hj => exact absurd hj (by omega), fun g => rfl⟩
theorem nwX6_26 : zNw RX6 26 3 16 [.int 0, .int 0, .int 0, .int 0, .null, .null, .null, .null, .null, .null, .null, .null, .null, .int 0, .int 0, .int 0] := ⟨RX3, TX3, tyX3, rfl, zlX3, ⟨tyX3_ok, nmX3⟩, (zt1 (i := 68) (by decide +kernel) rfl), (zt1 (i := 69) (by decide +kernel) rfl), (zt1 (i := 4) (by decide +kernel) rfl), fun j hj => by
  match j, hj with
  | 0, _ => rfl
  | 1, _ => rfl
  | 2, _ => rfl
  | 3, _ => rfl
  | 4, _ => rfl
  | 5, _ => rfl
  | 6, _ => rfl
  | 7, _ => rfl
  | 8, _ => rfl
  | 9, _ => rfl
  | 10, _ => rfl
  | 11, _ => rfl
  | 12, _ => rfl
  | 13, _ => rfl
  | 14, _ => rfl
  | 15, _ => rfl
  | j + 16, hj => exact absurd hj (by omega), fun g => rfl⟩
theorem nwX6_49 : zNw RX6 49 0 3 [.null, .null, .int 0] := ⟨RX0, TX0, tyX0, rfl, zlX0, ⟨tyX0_ok, nmX0⟩, (zt1 (i := 144) (by decide +kernel) rfl), (zt1 (i := 145) (by decide +kernel) rfl), (zt1 (i := 5) (by decide +kernel) rfl), fun j hj => by
  match j, hj with
  | 0, _ => rfl
  | 1, _ => rfl
  | 2, _ => rfl
  | j + 3, hj => exact absurd hj (by omega), fun g => rfl⟩
theorem nwX6_56 : zNw RX6 56 4 6 [.null, .null, .null, .null, .int 0, .int 0] := ⟨RX4, TX4, tyX4, rfl, zlX4, ⟨tyX4_ok, nmX4⟩, (zt1 (i := 163) (by decide +kernel) rfl), (zt1 (i := 164) (by decide +kernel) rfl), (zt1 (i := 6) (by decide +kernel) rfl), fun j hj => by
  match j, hj with
  | 0, _ => rfl
  | 1, _ => rfl
  | 2, _ => rfl
  | 3, _ => rfl
  | 4, _ => rfl
  | 5, _ => rfl
  | j + 6, hj => exact absurd hj (by omega), fun g => rfl⟩
theorem nwX6_63 : zNw RX6 63 2 1 [.null] := ⟨RX2, TX2, tyX2, rfl, zlX2, ⟨tyX2_ok, nmX2⟩, (zt1 (i := 191) (by decide +kernel) rfl), (zt1 (i := 192) (by decide +kernel) rfl), (zt1 (i := 7) (by decide +kernel) rfl), fun j hj => by
  match j, hj with
  | 0, _ => rfl
  | j + 1, hj => exact absurd hj (by omega), fun g => rfl⟩
theorem nX6_77 : Cond.constant RX6 77 (-1000000002) ∈ zT := (zt2 (i := 20) (by decide +kernel) rfl)
theorem nX6_82 : Cond.constant RX6 82 (-1000000004) ∈ zT := (zt2 (i := 21) (by decide +kernel) rfl)
theorem nX6_137 : Cond.constant RX6 137 (-1000000001) ∈ zT := (zt2 (i := 204) (by decide +kernel) rfl)
theorem nX3_147 : Cond.constantLong RX3 147 (10000) ∈ zT := (zt2 (i := 236) (by decide +kernel) rfl)
theorem nX3_155 : Cond.constantLong RX3 155 (8) ∈ zT := (zt3 (i := 1) (by decide +kernel) rfl)
theorem nX3_157 : Cond.constantLong RX3 157 (7) ∈ zT := (zt3 (i := 2) (by decide +kernel) rfl)
theorem nX3_163 : Cond.constantLong RX3 163 (1000000000000000000) ∈ zT := (zt3 (i := 3) (by decide +kernel) rfl)
theorem nX6_192 : Cond.constant RX6 192 (-1000000003) ∈ zT := (zt3 (i := 13) (by decide +kernel) rfl)
theorem nX3_181 : Cond.constantLong RX3 181 (1103515245) ∈ zT := (zt3 (i := 58) (by decide +kernel) rfl)
theorem nX3_183 : Cond.constantLong RX3 183 (12345) ∈ zT := (zt3 (i := 59) (by decide +kernel) rfl)
theorem nX3_185 : Cond.constantLong RX3 185 (2147483647) ∈ zT := (zt3 (i := 60) (by decide +kernel) rfl)
theorem nX3_187 : Cond.constant RX3 187 (65536) ∈ zT := (zt3 (i := 61) (by decide +kernel) rfl)
theorem nX3_168 : Cond.constantLong RX3 168 (-1) ∈ zT := (zt3 (i := 88) (by decide +kernel) rfl)
theorem nJ6_264 : Cond.constant RJ6 264 (65536) ∈ zT := (zt3 (i := 97) (by decide +kernel) rfl)
theorem nJ6_265 : Cond.constant RJ6 265 (1431655765) ∈ zT := (zt3 (i := 101) (by decide +kernel) rfl)
theorem nJ6_266 : Cond.constant RJ6 266 (858993459) ∈ zT := (zt3 (i := 102) (by decide +kernel) rfl)
theorem nJ6_267 : Cond.constant RJ6 267 (252645135) ∈ zT := (zt3 (i := 103) (by decide +kernel) rfl)
theorem nwL_10 : zNw RL 10 7 31 [.null, .null, .int 0, .int 0, .null, .null, .null, .null, .null, .null, .int 0, .null, .int 0, .int 0, .int 0, .int 0, .int 0, .int 0, .int 0, .int 0, .int 0, .null, .null, .null, .null, .int 0, .null, .null, .null, .null, .int 0] := ⟨RX7, TX7, tyX7, rfl, zlX7, ⟨tyX7_ok, nmX7⟩, (zt4 (i := 25) (by decide +kernel) rfl), (zt4 (i := 26) (by decide +kernel) rfl), (zt1 (i := 8) (by decide +kernel) rfl), fun j hj => by
  match j, hj with
  | 0, _ => rfl
  | 1, _ => rfl
  | 2, _ => rfl
  | 3, _ => rfl
  | 4, _ => rfl
  | 5, _ => rfl
  | 6, _ => rfl
  | 7, _ => rfl
  | 8, _ => rfl
  | 9, _ => rfl
  | 10, _ => rfl
  | 11, _ => rfl
  | 12, _ => rfl
  | 13, _ => rfl
  | 14, _ => rfl
  | 15, _ => rfl
  | 16, _ => rfl
  | 17, _ => rfl
  | 18, _ => rfl
  | 19, _ => rfl
  | 20, _ => rfl
  | 21, _ => rfl
  | 22, _ => rfl
  | 23, _ => rfl
  | 24, _ => rfl
  | 25, _ => rfl
  | 26, _ => rfl
  | 27, _ => rfl
  | 28, _ => rfl
  | 29, _ => rfl
  | 30, _ => rfl
  | j + 31, hj => exact absurd hj (by omega), fun g => rfl⟩
theorem nX7_75 : Cond.constantLong RX7 75 (8) ∈ zT := (zt4 (i := 130) (by decide +kernel) rfl)
theorem nX7_81 : Cond.constant RX7 81 (-1000000002) ∈ zT := (zt4 (i := 134) (by decide +kernel) rfl)
theorem nX7_85 : Cond.constant RX7 85 (-1000000004) ∈ zT := (zt4 (i := 135) (by decide +kernel) rfl)
theorem nX7_86 : Cond.constantLong RX7 86 (255) ∈ zT := (zt4 (i := 136) (by decide +kernel) rfl)
theorem nX7_101 : Cond.constantLong RX7 101 (97) ∈ zT := (zt4 (i := 157) (by decide +kernel) rfl)
theorem nX7_103 : Cond.constantLong RX7 103 (122) ∈ zT := (zt4 (i := 158) (by decide +kernel) rfl)
theorem nX7_108 : Cond.constantLong RX7 108 (48) ∈ zT := (zt4 (i := 171) (by decide +kernel) rfl)
theorem nX7_110 : Cond.constantLong RX7 110 (57) ∈ zT := (zt4 (i := 172) (by decide +kernel) rfl)
theorem nX7_116 : Cond.constant RX7 116 (99999) ∈ zT := (zt4 (i := 173) (by decide +kernel) rfl)
theorem nX7_186 : Cond.constant RX7 186 (-1000000001) ∈ zT := (zt4 (i := 216) (by decide +kernel) rfl)
theorem nX7_196 : Cond.constantLong RX7 196 (99) ∈ zT := (zt5 (i := 17) (by decide +kernel) rfl)
theorem nX7_198 : Cond.constantLong RX7 198 (999) ∈ zT := (zt5 (i := 22) (by decide +kernel) rfl)
theorem nX7_200 : Cond.constant RX7 200 (-1000000003) ∈ zT := (zt5 (i := 23) (by decide +kernel) rfl)
theorem nX7_204 : Cond.constantLong RX7 204 (-9) ∈ zT := (zt5 (i := 32) (by decide +kernel) rfl)
theorem nX7_206 : Cond.constantLong RX7 206 (9) ∈ zT := (zt5 (i := 33) (by decide +kernel) rfl)
theorem nX7_225 : Cond.constantLong RX7 225 (10) ∈ zT := (zt5 (i := 50) (by decide +kernel) rfl)
theorem nX7_215 : Cond.constantLong RX7 215 (1103515245) ∈ zT := (zt5 (i := 59) (by decide +kernel) rfl)
theorem nX7_217 : Cond.constantLong RX7 217 (12345) ∈ zT := (zt5 (i := 60) (by decide +kernel) rfl)
theorem nX7_219 : Cond.constantLong RX7 219 (2147483648) ∈ zT := (zt5 (i := 61) (by decide +kernel) rfl)
theorem nX7_221 : Cond.constant RX7 221 (65536) ∈ zT := (zt5 (i := 62) (by decide +kernel) rfl)
theorem nX7_277 : Cond.constantLong RX7 277 (6) ∈ zT := (zt5 (i := 149) (by decide +kernel) rfl)
theorem nL_13 : Cond.constantLong RL 13 (4294967295) ∈ zT := (zt5 (i := 202) (by decide +kernel) rfl)
