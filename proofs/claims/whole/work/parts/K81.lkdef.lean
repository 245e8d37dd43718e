/-! of each method its name, its code, what it answers, how deep it calls, how many words it wants; printed by wip/whole/genlk.py -/
def mm_nms : List MethodName := [yX0_init, yX0_clear, yX0_addInt, yX0_at, yX0_take, yX0_sumOfBlock, yX1_init, yX1_at, yX1_make, yX1_put, yX1_putTiming, yX1_putName, yX1_putRange, yX1_putSum, yX2_init, yX2_inspect, yX2_note, yX2_inspectHead, yX2_inspectExtension, yX3_init, yX3_clear, yX3_open, yX3_close, yX3_put, yX3_digits, yX3_stepPart, yX3_fallPart, yX4_init, yX4_isLike, yX4_comesAhead, yX5_init, yX5_at, yX5_leftOutBy, yX5_indexOf, yX5_collect, yX5_offerCode, yX5_offerStandard, yX5_standardHeight, yX5_offer, yX5_whyLeftOut, yX5_insert, yX6_init, yX6_read, yX6_readBaseDescriptor, yX6_readRange, yX6_hasClock, yX6_addDetailed, yX6_readName, yX6_readData, yX6_readCodes, yX6_readMost, yX6_readDetailedFrom, yX6_detailedAt, yX6_codeAt, yX6_nameByte, yX6_makerLetter, yX6_rangeByte, yX6_rangePart, yX6_isInRange, yX7_init, yX7_read, yX7_descriptorByte, yX7_draw, yX7_blankLines, yX7_plainSync, yX7_copy, yX7_setByTable, yX7_part, yX7_isBroken, yX7_fits, yX7_wholeH, yX7_wholeV, yX7_pixels, yX7_nearestHertz, yX7_thousandths, yX7_lineRate, yX8_init, yX8_stop, yX8_start, yX8_isRunning, yX8_triesOfPhase, yX8_finish, yX8_attempt, yX8_allLanes, yX8_attemptClock, yX8_attemptEven, yX8_wantSwing, yX8_wantEmphasis, yX8_fastLanes, yX8_isOneAtTop, yX8_raise, yX8_easeSwing, yX8_drop, yX8_dropFromClock, yX8_dropFromEven, yX8_toFoot, yX9_init, yX9_copy, yX10_init, yX10_feed, yX10_load, yX10_fault, yX10_mend, yX10_told, yX10_toldPlainly, yX10_name, yX10_detailed, yX10_forged, yX10_mode, yX10_called, yX10_find, yX10_formula, yX10_descriptor, yX10_fastest, yX10_isFormula, yX10_isSize, yX10_isHertz, yX10_wish, yX10_room, yX10_need, yX10_best, yX10_cheapest, yX10_isLink, yX10_isDepth, yX10_roomOf, yX10_needOf, yX10_depthWithin, yX10_bestWithin, yX10_lane, yX10_wire, yX10_begin, yX10_tries, yX10_state, yX10_level, yX10_fall, yX10_step, yX10_shown, yX10_isLane, yX10_greatest, yX10_endTraining, yX10_trained, yX10_margin, yX10_laid, yX10_layLane, yX10_enough, yX10_would, yX10_count, yX10_headByte, yX11_isIn, yX11_has, yX11_greater, yX11_init, yX11_feed, yX11_fails, yX11_sumOf, yX11_checks, yX11_checksExtension, yX11_load, yX11_fault, yX11_mend, yX11_at, yX11_readsDetailed, yX11_isBroken, yX11_isDetailed, yX11_readsOther, yX11_readsData, yX11_readsAll, yX11_hertzOf, yX11_ofMode, yX11_isOut, yX11_isFound, yX11_offers, yX11_laysFronts, yX11_offersDetailed, yX11_offersCode, yX11_offersPlain, yX11_reads, yX11_isAhead, yX11_told, yX11_name, yX11_detailed, yX11_isMode, yX11_mode, yX11_thousandths, yX11_laysMode, yX11_forgesName, yX11_forgesRange, yX11_forges, yX11_forged, yX11_calls, yX11_callsNumber, yX11_called, yX11_find, yX11_syncOf, yX11_works, yX11_refuses, yX11_formula, yX11_hasRoom, yX11_descriptorByte, yX11_descriptor, yX11_isDepth, yX11_isLink, yX11_roomOf, yX11_needOf, yX11_wish, yX11_room, yX11_need, yX11_laysBest, yX11_best, yX11_cheapest, yX11_fastest, yX11_isLane, yX11_ends, yX11_lane, yX11_wire, yX11_foots, yX11_begins, yX11_begin, yX11_wantsSwing, yX11_wantsEmphasis, yX11_falls, yX11_triesClock, yX11_triesEven, yX11_isTraining, yX11_digits, yX11_triesOnce, yX11_step, yX11_tries, yX11_mostOf, yX11_state, yX11_level, yX11_fall, yX11_shown, yX11_opens, yX11_closes, yX11_trains, yX11_toldOf, yX11_trained, yX11_margin, yX11_triesOrder, yX11_isOrder, yX11_laid, yX11_enough, yX11_would, yX11_count, yJ4_init_da8c8, yJ5_init_d00df, yJ4_append_cf468, yJ4_append_bf812, yJ4_charAt_5068e, yJ4_setLength_d00df, yJ4_length_8abf5, yJ5_length_8abf5, yJ5_ensureCapacityInternal_d00df, yJ5_setLength_d00df, yJ5_charAt_5068e, yJ5_append_3fe6f, yJ5_append_c97b9, yJ5_isLatin1_aae02, yJ6_getChars_ba4f3, yJ6_stringSize_0f7a4, yJ0_checkIndex_df160, yJ1_canEncode_fc78d, yJ7_fill_53178, yJ3_checkIndex_8e157, yL_law]
def mm_codes : List ByteArray := [cX0_init, cX0_clear, cX0_addInt, cX0_at, cX0_take, cX0_sumOfBlock, cX1_init, cX1_at, cX1_make, cX1_put, cX1_putTiming, cX1_putName, cX1_putRange, cX1_putSum, cX2_init, cX2_inspect, cX2_note, cX2_inspectHead, cX2_inspectExtension, cX3_init, cX3_clear, cX3_open, cX3_close, cX3_put, cX3_digits, cX3_stepPart, cX3_fallPart, cX4_init, cX4_isLike, cX4_comesAhead, cX5_init, cX5_at, cX5_leftOutBy, cX5_indexOf, cX5_collect, cX5_offerCode, cX5_offerStandard, cX5_standardHeight, cX5_offer, cX5_whyLeftOut, cX5_insert, cX6_init, cX6_read, cX6_readBaseDescriptor, cX6_readRange, cX6_hasClock, cX6_addDetailed, cX6_readName, cX6_readData, cX6_readCodes, cX6_readMost, cX6_readDetailedFrom, cX6_detailedAt, cX6_codeAt, cX6_nameByte, cX6_makerLetter, cX6_rangeByte, cX6_rangePart, cX6_isInRange, cX7_init, cX7_read, cX7_descriptorByte, cX7_draw, cX7_blankLines, cX7_plainSync, cX7_copy, cX7_setByTable, cX7_part, cX7_isBroken, cX7_fits, cX7_wholeH, cX7_wholeV, cX7_pixels, cX7_nearestHertz, cX7_thousandths, cX7_lineRate, cX8_init, cX8_stop, cX8_start, cX8_isRunning, cX8_triesOfPhase, cX8_finish, cX8_attempt, cX8_allLanes, cX8_attemptClock, cX8_attemptEven, cX8_wantSwing, cX8_wantEmphasis, cX8_fastLanes, cX8_isOneAtTop, cX8_raise, cX8_easeSwing, cX8_drop, cX8_dropFromClock, cX8_dropFromEven, cX8_toFoot, cX9_init, cX9_copy, cX10_init, cX10_feed, cX10_load, cX10_fault, cX10_mend, cX10_told, cX10_toldPlainly, cX10_name, cX10_detailed, cX10_forged, cX10_mode, cX10_called, cX10_find, cX10_formula, cX10_descriptor, cX10_fastest, cX10_isFormula, cX10_isSize, cX10_isHertz, cX10_wish, cX10_room, cX10_need, cX10_best, cX10_cheapest, cX10_isLink, cX10_isDepth, cX10_roomOf, cX10_needOf, cX10_depthWithin, cX10_bestWithin, cX10_lane, cX10_wire, cX10_begin, cX10_tries, cX10_state, cX10_level, cX10_fall, cX10_step, cX10_shown, cX10_isLane, cX10_greatest, cX10_endTraining, cX10_trained, cX10_margin, cX10_laid, cX10_layLane, cX10_enough, cX10_would, cX10_count, cX10_headByte, cX11_isIn, cX11_has, cX11_greater, cX11_init, cX11_feed, cX11_fails, cX11_sumOf, cX11_checks, cX11_checksExtension, cX11_load, cX11_fault, cX11_mend, cX11_at, cX11_readsDetailed, cX11_isBroken, cX11_isDetailed, cX11_readsOther, cX11_readsData, cX11_readsAll, cX11_hertzOf, cX11_ofMode, cX11_isOut, cX11_isFound, cX11_offers, cX11_laysFronts, cX11_offersDetailed, cX11_offersCode, cX11_offersPlain, cX11_reads, cX11_isAhead, cX11_told, cX11_name, cX11_detailed, cX11_isMode, cX11_mode, cX11_thousandths, cX11_laysMode, cX11_forgesName, cX11_forgesRange, cX11_forges, cX11_forged, cX11_calls, cX11_callsNumber, cX11_called, cX11_find, cX11_syncOf, cX11_works, cX11_refuses, cX11_formula, cX11_hasRoom, cX11_descriptorByte, cX11_descriptor, cX11_isDepth, cX11_isLink, cX11_roomOf, cX11_needOf, cX11_wish, cX11_room, cX11_need, cX11_laysBest, cX11_best, cX11_cheapest, cX11_fastest, cX11_isLane, cX11_ends, cX11_lane, cX11_wire, cX11_foots, cX11_begins, cX11_begin, cX11_wantsSwing, cX11_wantsEmphasis, cX11_falls, cX11_triesClock, cX11_triesEven, cX11_isTraining, cX11_digits, cX11_triesOnce, cX11_step, cX11_tries, cX11_mostOf, cX11_state, cX11_level, cX11_fall, cX11_shown, cX11_opens, cX11_closes, cX11_trains, cX11_toldOf, cX11_trained, cX11_margin, cX11_triesOrder, cX11_isOrder, cX11_laid, cX11_enough, cX11_would, cX11_count, cJ4_init_da8c8, cJ5_init_d00df, cJ4_append_cf468, cJ4_append_bf812, cJ4_charAt_5068e, cJ4_setLength_d00df, cJ4_length_8abf5, cJ5_length_8abf5, cJ5_ensureCapacityInternal_d00df, cJ5_setLength_d00df, cJ5_charAt_5068e, cJ5_append_3fe6f, cJ5_append_c97b9, cJ5_isLatin1_aae02, cJ6_getChars_ba4f3, cJ6_stringSize_0f7a4, cJ0_checkIndex_df160, cJ1_canEncode_fc78d, cJ7_fill_53178, cJ3_checkIndex_8e157, cL_law]
def mm_rts : List (Option FieldType) := [none, none, none, some (.int), none, some (.int), none, some (.int), none, none, none, none, none, none, none, none, none, none, none, none, none, none, none, none, some (.int), some (.int), some (.int), none, some (.boolean), some (.boolean), none, some (.object "ScreenTalk$Mode"), some (.int), some (.int), none, none, none, some (.int), none, some (.int), none, none, none, none, none, some (.boolean), none, none, none, none, none, none, some (.object "ScreenTalk$Timing"), some (.int), some (.int), some (.int), some (.int), some (.int), some (.boolean), none, none, some (.int), none, some (.int), some (.int), none, none, some (.int), some (.boolean), some (.boolean), some (.int), some (.int), some (.long), some (.int), some (.int), some (.int), none, none, none, some (.boolean), some (.int), some (.int), some (.int), some (.int), some (.int), some (.int), some (.int), some (.int), some (.int), some (.boolean), none, none, none, none, none, none, none, none, none, some (.int), some (.int), some (.int), some (.int), some (.int), some (.int), some (.int), some (.int), some (.int), some (.int), some (.int), some (.int), some (.int), some (.int), some (.int), some (.boolean), some (.boolean), some (.boolean), some (.int), some (.int), some (.int), some (.int), some (.int), some (.boolean), some (.boolean), some (.int), some (.long), some (.int), some (.int), some (.int), some (.int), some (.int), some (.int), some (.int), some (.int), some (.int), some (.int), some (.int), some (.boolean), some (.int), none, some (.int), some (.int), some (.int), none, some (.int), some (.int), some (.int), some (.int), some (.boolean), some (.boolean), some (.int), none, some (.int), none, some (.int), none, none, some (.int), some (.int), some (.int), some (.int), none, some (.boolean), some (.boolean), none, none, none, some (.int), some (.int), some (.boolean), some (.boolean), some (.boolean), none, none, none, none, none, some (.boolean), some (.int), some (.int), some (.int), some (.boolean), some (.int), some (.int), none, none, none, some (.boolean), some (.int), none, none, some (.int), some (.int), some (.int), none, some (.int), some (.int), some (.boolean), some (.int), some (.int), some (.boolean), some (.boolean), some (.int), some (.int), some (.int), some (.int), some (.int), none, some (.int), some (.int), some (.int), some (.boolean), none, some (.int), some (.int), none, none, some (.int), some (.boolean), some (.boolean), none, none, none, some (.boolean), some (.int), none, some (.int), some (.int), some (.int), some (.int), some (.int), some (.int), some (.int), none, none, some (.int), some (.int), some (.int), some (.int), none, some (.boolean), some (.int), some (.int), some (.int), some (.int), none, none, some (.object "java/lang/StringBuilder"), some (.object "java/lang/StringBuilder"), some (.char), none, some (.int), some (.int), none, none, some (.char), some (.object "java/lang/AbstractStringBuilder"), some (.object "java/lang/AbstractStringBuilder"), some (.boolean), some (.int), some (.int), none, some (.boolean), none, some (.int), some (.boolean)]
def mm_rks : List Nat := [1, 0, 0, 0, 1, 1, 1, 0, 2, 0, 1, 1, 1, 0, 1, 2, 0, 1, 1, 1, 0, 1, 1, 0, 0, 0, 1, 2, 0, 0, 3, 0, 0, 1, 5, 4, 4, 0, 3, 2, 1, 2, 4, 3, 1, 1, 2, 1, 2, 1, 1, 3, 0, 0, 0, 1, 0, 1, 0, 1, 1, 0, 1, 0, 0, 0, 0, 1, 0, 0, 0, 0, 0, 1, 1, 1, 1, 2, 3, 0, 0, 4, 3, 0, 1, 1, 0, 0, 0, 0, 0, 0, 2, 0, 0, 1, 1, 1, 4, 1, 6, 0, 2, 3, 2, 1, 2, 1, 2, 4, 2, 2, 2, 2, 0, 0, 0, 1, 1, 1, 3, 1, 0, 0, 0, 0, 1, 2, 4, 4, 4, 4, 2, 1, 2, 1, 3, 0, 1, 3, 5, 5, 5, 1, 5, 5, 0, 0, 0, 0, 0, 1, 0, 0, 0, 2, 1, 5, 0, 1, 0, 1, 0, 1, 1, 1, 2, 0, 0, 1, 0, 2, 0, 3, 3, 3, 4, 0, 1, 0, 1, 1, 2, 0, 1, 0, 0, 2, 3, 0, 1, 2, 1, 0, 1, 1, 2, 0, 0, 2, 1, 1, 0, 1, 2, 2, 2, 2, 3, 2, 2, 1, 0, 2, 2, 0, 1, 2, 0, 0, 1, 2, 2, 1, 0, 3, 1, 4, 1, 2, 2, 1, 3, 0, 0, 4, 0, 5, 5, 5, 0, 6, 5, 5, 0, 2, 1, 2, 2, 3, 2, 1, 0, 0, 1, 2, 1, 1, 0, 0, 0, 1, 0, 0, 0, 7]
def mm_wts : List Nat := [40, 0, 0, 0, 40, 21, 40, 0, 47, 0, 24, 24, 24, 0, 40, 47, 0, 22, 22, 40, 0, 25, 23, 0, 0, 0, 23, 60, 0, 0, 80, 0, 0, 23, 116, 92, 92, 0, 68, 47, 23, 60, 91, 68, 21, 21, 47, 21, 44, 21, 21, 68, 0, 0, 0, 21, 0, 21, 0, 40, 21, 0, 40, 0, 0, 0, 0, 20, 0, 0, 0, 0, 0, 20, 40, 20, 40, 43, 63, 0, 0, 86, 64, 0, 24, 24, 0, 0, 0, 0, 0, 0, 43, 0, 0, 23, 40, 40, 101, 22, 140, 0, 44, 64, 43, 21, 41, 21, 62, 88, 47, 65, 65, 65, 0, 0, 0, 20, 21, 21, 69, 21, 0, 0, 0, 0, 21, 44, 83, 83, 84, 86, 65, 20, 45, 23, 69, 0, 40, 63, 108, 108, 108, 20, 108, 108, 0, 0, 0, 0, 0, 40, 0, 0, 0, 49, 25, 126, 0, 23, 0, 21, 0, 21, 25, 21, 47, 0, 0, 25, 0, 48, 0, 78, 78, 78, 102, 0, 25, 0, 25, 25, 46, 0, 22, 0, 0, 43, 66, 0, 21, 46, 22, 0, 21, 25, 49, 0, 0, 49, 25, 25, 0, 22, 45, 46, 46, 44, 67, 46, 49, 25, 0, 45, 46, 0, 21, 41, 0, 0, 21, 45, 45, 25, 0, 70, 25, 91, 21, 44, 45, 25, 67, 0, 0, 91, 0, 111, 111, 111, 0, 134, 111, 111, 0, 61, 40, 43, 49, 67, 43, 20, 0, 0, 22, 43, 22, 26, 0, 0, 0, 22, 0, 0, 0, 161]
def mm_nm (m : Nat) : MethodName := mm_nms.getD m ⟨"", "", ""⟩
def mm_own (m : Nat) : String := (mm_nm m).cls
def mm_code (m : Nat) : ByteArray := mm_codes.getD m ⟨#[]⟩
def mm_rt (m : Nat) : Option FieldType := mm_rts.getD m none
def mm_rk (m : Nat) : Nat := mm_rks.getD m 0
def mm_wt (m : Nat) : Nat := mm_wts.getD m 0
def mm_nest (w : Cond) : Bool := match w with
  | .fieldLinkNest .. => true
  | .methodLinkNest .. => true
  | .privateMethod _ => true
  | .arrayOver (.object _) => true
  | _ => false
def mm_gw (w : Cond) : Bool := goodWord w || mm_nest w
def mm_TB (U : State) : Prop := ∀ w ∈ lw_tbl, mm_gw w = true → ∀ a' : Array Value, w.before a' U = true
def mm_in (w : Cond) : Prop := w ∈ lw_tbl ∧ mm_gw w = true
def mm_lf (own : String) (idx c k : Nat) : Prop := ∃ r : vw_C, mm_cl[c]? = some r ∧ k < r.2.2 ∧ (mm_in (.fieldLink own idx (r.2.1 k).1 (r.2.1 k).2.1 (r.2.1 k).2.2.1) ∨ ∃ host, mm_in (.fieldLinkNest own idx (r.2.1 k).1 (r.2.1 k).2.1 (r.2.1 k).2.2.1 host))
/-- a field that is written: no final one, or its own constructor's -/
def mm_lp (own nm : String) (idx c k : Nat) : Prop := ∃ r : vw_C, mm_cl[c]? = some r ∧ k < r.2.2 ∧ (((r.2.1 k).2.2.2 = false ∧ (mm_in (.fieldLink own idx (r.2.1 k).1 (r.2.1 k).2.1 (r.2.1 k).2.2.1) ∨ ∃ host, mm_in (.fieldLinkNest own idx (r.2.1 k).1 (r.2.1 k).2.1 (r.2.1 k).2.2.1 host))) ∨ ((r.2.1 k).2.2.2 = true ∧ own = r.1 ∧ (r.2.1 k).1 = r.1 ∧ nm = "<init>" ∧ mm_in (.fieldLink own idx (r.2.1 k).1 (r.2.1 k).2.1 (r.2.1 k).2.2.1)))
def mm_ls (own : String) (idx : Nat) (ty x : Int) : Prop := ∃ q ∈ mm_stats, q.2.2.2.1 = ty ∧ q.2.2.2.2 = x ∧ (mm_in (.fieldLink own idx q.1 q.2.1 q.2.2.1) ∨ ∃ host, mm_in (.fieldLinkNest own idx q.1 q.2.1 q.2.2.1 host))
def mm_MF (y n : Nat) : Prop := mm_in (.code (mm_nm y) (mm_code y) (mm_max y) (mm_rt y)) ∧ mm_in (.initialized (mm_nm y).cls) ∧ plainName (mm_nm y).cls = true ∧ ((mm_nm y).cls ≠ "java/lang/invoke/MethodHandle" ∧ (mm_nm y).cls ≠ "java/lang/invoke/VarHandle") ∧ (parseMethodDescriptor (mm_nm y).desc).map (fun d => d.parameters.length) = some n
def mm_lm (own : String) (idx y : Nat) : Prop := mm_in (.methodLink own idx (mm_nm y)) ∨ ∃ host, mm_in (.methodLinkNest own idx (mm_nm y) host)
def mm_rm (m y : Nat) : Prop := mm_rk y + 1 ≤ mm_rk m ∧ 8 + (mm_max y + 11) + mm_wt y ≤ mm_wt m
/-- keys and places of a table -/
def mm_il (pc : Int) : Int → List Int → List Int
  | _, [] => []
  | k, o :: r => k :: (pc + o) :: mm_il pc (k + 1) r
def mm_ilp (pc : Int) : List (Int × Int) → List Int
  | [] => []
  | (k, o) :: r => k :: (pc + o) :: mm_ilp pc r
/-- what must hold of an entry besides its decoding -/
def mm_lk (own : String) (m pc kd : Nat) (ins : Instr) (xs : List Int) : Prop := match ins with
  | .iconst n => -2147483648 ≤ n ∧ n < 2147483648
  | .bipush n => (-2147483648 ≤ n ∧ n < 2147483648) ∧ (Int8.ofInt n).toInt32 = Int32.ofInt n
  | .sipush n => (-2147483648 ≤ n ∧ n < 2147483648) ∧ (Int16.ofInt n).toInt32 = Int32.ofInt n
  | .ldc i => ∃ n, xs = [n] ∧ (-2147483648 ≤ n ∧ n < 2147483648) ∧ mm_in (.constant own i (Int32.ofInt n))
  | .ldc_w i => ∃ n, xs = [n] ∧ (-2147483648 ≤ n ∧ n < 2147483648) ∧ mm_in (.constant own i (Int32.ofInt n))
  | .ldc2_w i => ∃ n, xs = [n] ∧ (-9223372036854775808 ≤ n ∧ n < 9223372036854775808) ∧ mm_in (.constantLong own i (Int64.ofInt n))
  | .goto off => 0 ≤ (pc : Int) + off
  | .ifCond _ off => 0 ≤ (pc : Int) + off
  | .if_icmp _ off => 0 ≤ (pc : Int) + off
  | .ifnull off => 0 ≤ (pc : Int) + off
  | .ifnonnull off => 0 ≤ (pc : Int) + off
  | .tableswitch dflt lo hi offs => xs = ((pc : Int) + dflt) :: mm_il pc lo offs.toList ∧ hi + 1 = lo + offs.size ∧ (∀ x ∈ xs, 0 ≤ x)
  | .lookupswitch dflt ps => xs = ((pc : Int) + dflt) :: mm_ilp pc ps.toList ∧ (ps.toList.zip (ps.toList.drop 1)).all (fun (a, next) => a.1 < next.1) = true ∧ (∀ x ∈ xs, 0 ≤ x)
  | .getfield idx => ∃ c k : Nat, xs = [(c : Int), (k : Int), mm_ft c k] ∧ mm_lf own idx c k
  | .putfield idx => ∃ c k : Nat, xs = [(c : Int), (k : Int), mm_ft c k] ∧ mm_lp own (mm_nm m).name idx c k
  | .getstatic idx => ∃ ty x, xs = [ty, x] ∧ mm_ls own idx ty x
  | .new idx => ∃ (c : Nat) (r : vw_C), xs = [(c : Int), (r.2.2 : Int)] ∧ mm_cl[c]? = some r ∧ mm_in (.classLink own idx r.1) ∧ mm_in (.instantiable r.1 r.2.2) ∧ mm_in (.initialized r.1)
  | .newarray t => (t = .int ∧ xs = [100] ∧ mm_in (.arrayClass .int)) ∨ (t = .byte ∧ xs = [101] ∧ mm_in (.arrayClass .byte))
  | .anewarray idx => ∃ (kd : Int) (C : String), xs = [kd] ∧ (kd = 102 ∨ kd = 103) ∧ mm_at kd = .object C ∧ mm_in (.classLink own idx C) ∧ mm_in (.arrayOver (.object C))
  | .aaload => ∃ kd c, xs = [kd, c] ∧ (kd = 102 ∨ kd = 103)
  | .aastore => xs = [102, 4] ∨ xs = [103, 7]
  | .ireturn => kd = 2 ∧ ((xs = [0] ∧ mm_rt m = some .int) ∨ (xs = [1] ∧ mm_rt m = some .boolean) ∨ (xs = [5] ∧ mm_rt m = some .char))
  | .lreturn => kd = 2 ∧ mm_rt m = some .long
  | .areturn => kd = 2 ∧ ∃ rt, mm_rt m = some rt ∧ ((∃ n, rt = .object n) ∨ ∃ t, rt = .array t)
  | .return_ => kd = 2 ∧ mm_rt m = none
  | .invokestatic idx => (kd = 0 ∧ xs = [0] ∧ mm_in (.methodLink own idx Lib.Math.max.name) ∧ mm_in (.static Lib.Math.max.name) ∧ mm_in (.initialized "java/lang/Math") ∧ mm_in (.code Lib.Math.max.name Lib.Math.max.code 2 (some .int)) ∧ 1 ≤ mm_rk m ∧ 40 ≤ mm_wt m) ∨ (kd = 0 ∧ xs = [0, 0] ∧ mm_in (.methodLink own idx Lib.Math.min.name) ∧ mm_in (.static Lib.Math.min.name) ∧ mm_in (.initialized "java/lang/Math") ∧ mm_in (.code Lib.Math.min.name Lib.Math.min.code 2 (some .int)) ∧ 1 ≤ mm_rk m ∧ 40 ≤ mm_wt m) ∨ (kd = 0 ∧ xs = [0, 0, 0] ∧ mm_in (.methodLink own idx Lib.MathLoose.min_long.x) ∧ mm_in (.static Lib.MathLoose.min_long.x) ∧ mm_in (.initialized "java/lang/Math") ∧ mm_in (.code Lib.MathLoose.min_long.x Lib.MathLoose.min_long.code 4 (some .long)) ∧ 1 ≤ mm_rk m ∧ 40 ≤ mm_wt m) ∨ (kd = 0 ∧ xs = [] ∧ mm_in (.methodLink own idx arraycopyName) ∧ mm_in (.native arraycopyName) ∧ mm_in (.static arraycopyName) ∧ mm_in (.initialized "java/lang/System") ∧ 1 ≤ mm_rk m ∧ 40 ≤ mm_wt m) ∨ (kd = 1 ∧ ∃ y n : Nat, xs = [0, (y : Int), (n : Int), 0] ∧ mm_MF y n ∧ mm_rm m y ∧ mm_lm own idx y ∧ mm_in (.static (mm_nm y)))
  | .invokevirtual idx => kd = 1 ∧ ∃ (y n c : Nat) (r : vw_C), xs = [1, (y : Int), (n : Int), (c : Int)] ∧ mm_cl[c]? = some r ∧ mm_MF y n ∧ mm_rm m y ∧ mm_lm own idx y ∧ mm_in (.instanceMethod (mm_nm y)) ∧ (mm_in (.selects r.1 (mm_nm y) (mm_nm y)) ∨ (mm_in (.privateMethod (mm_nm y)) ∧ ∃ z : MethodName, z.cls = (mm_nm y).cls ∧ mm_in (.selects r.1 z z)))
  | .invokespecial idx => (kd = 0 ∧ mm_in (.methodLink own idx Lib.objectInit) ∧ mm_in (.instanceMethod Lib.objectInit) ∧ mm_in (.code Lib.objectInit ⟨#[0xb1]⟩ 1 none) ∧ 1 ≤ mm_rk m ∧ 40 ≤ mm_wt m) ∨ (kd = 1 ∧ ∃ (y n c : Nat) (r : vw_C), xs = [1, (y : Int), (n : Int), (c : Int)] ∧ mm_cl[c]? = some r ∧ mm_MF y n ∧ mm_rm m y ∧ mm_in (.instanceMethod (mm_nm y)) ∧ (((mm_nm y).name = "<init>" ∧ mm_rt y = none ∧ mm_lm own idx y) ∨ ((mm_nm y).name ≠ "<init>" ∧ mm_in (.methodLink own idx (mm_nm y)) ∧ mm_in (.sameMethod (mm_nm y).cls (mm_nm y).cls (mm_nm y).name (mm_nm y).desc) ∧ mm_in (.superclass own (mm_nm y).cls))))
  | _ => True
/-- an instruction's length (0: it varies) -/
def mm_len (ins : Instr) : Nat := match ins with
  | .bipush _ => 2
  | .sipush _ => 3
  | .ldc _ => 2
  | .ldc_w _ => 3
  | .ldc2_w _ => 3
  | .iload _ => 2
  | .lload _ => 2
  | .aload _ => 2
  | .istore _ => 2
  | .lstore _ => 2
  | .astore _ => 2
  | .iinc .. => 3
  | .goto _ => 3
  | .ifCond .. => 3
  | .if_icmp .. => 3
  | .ifnull _ => 3
  | .ifnonnull _ => 3
  | .getfield _ => 3
  | .putfield _ => 3
  | .getstatic _ => 3
  | .new _ => 3
  | .newarray _ => 2
  | .anewarray _ => 3
  | .invokestatic _ => 3
  | .invokevirtual _ => 3
  | .invokespecial _ => 3
  | .tableswitch .. => 0
  | .lookupswitch .. => 0
  | _ => 1
def mm_dec (m pc : Nat) (ins : Instr) (nx : Nat) : Prop := ∃ len, decode (mm_code m) pc = .ok (ins, len) ∧ nx = pc + len ∧ (mm_len ins = len ∨ mm_len ins = 0)
def mm_isI (ins : Instr) : Bool := match ins with
  | .invokestatic _ => true
  | .invokevirtual _ => true
  | .invokespecial _ => true
  | _ => false
def mm_Lk (m : Nat) (e : Nat × ME) : Prop := mm_dec m e.1 e.2.2.1 e.2.2.2.1 ∧ (∃ own, mm_own m = own ∧ mm_lk own m e.1 e.2.1 e.2.2.1 e.2.2.2.2) ∧ (e.2.1 = 0 ∨ (e.2.1 = 1 ∧ mm_isI e.2.2.1 = true) ∨ e.2.1 = 2)

