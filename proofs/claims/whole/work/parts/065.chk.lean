/-! the tables hold: every row of them stands in lw_tbl where it says -/
def a_at (i : Nat) (w : Cond) : Bool := decide (lw_tbl[i]? = some w)
theorem a_in1 {w : Cond} (h : w ∈ tables_1_1) : w ∈ lw_tbl := List.mem_append_right _ (List.mem_append_left _ h)
theorem a_in2 {w : Cond} (h : w ∈ tables_1_2) : w ∈ lw_tbl := List.mem_append_right _ (List.mem_append_right _ (List.mem_append_left _ h))
theorem a_in3 {w : Cond} (h : w ∈ tables_1_3) : w ∈ lw_tbl := List.mem_append_right _ (List.mem_append_right _ (List.mem_append_right _ (List.mem_append_left _ h)))
theorem a_in4 {w : Cond} (h : w ∈ tables_1_4) : w ∈ lw_tbl := List.mem_append_right _ (List.mem_append_right _ (List.mem_append_right _ (List.mem_append_right _ (List.mem_append_left _ h))))
theorem a_in5 {w : Cond} (h : w ∈ tables_1_5) : w ∈ lw_tbl := List.mem_append_right _ (List.mem_append_right _ (List.mem_append_right _ (List.mem_append_right _ (List.mem_append_right _ (List.mem_append_left _ h)))))
theorem a_in6 {w : Cond} (h : w ∈ tables_1_6) : w ∈ lw_tbl := List.mem_append_right _ (List.mem_append_right _ (List.mem_append_right _ (List.mem_append_right _ (List.mem_append_right _ (List.mem_append_right _ h)))))
def a_mcode (e : MethodName × ByteArray × Nat × Option FieldType × Nat × Nat) : Cond := .code e.1 e.2.1 e.2.2.1 e.2.2.2.1
theorem am_0 : Cond.code yX0_opensByKind cX0_opensByKind 4 (some .boolean) ∈ lw_tbl := a_in2 (List.mem_of_getElem? (i := 131) rfl)
theorem am_1 : Cond.code yX0_beyond cX0_beyond 2 (some .int) ∈ lw_tbl := a_in2 (List.mem_of_getElem? (i := 135) rfl)
theorem am_2 : Cond.code yX0_bit cX0_bit 3 (some .int) ∈ lw_tbl := a_in2 (List.mem_of_getElem? (i := 157) rfl)
theorem am_3 : Cond.code yX0_init cX0_init 6 none ∈ lw_tbl := a_in2 (List.mem_of_getElem? (i := 208) rfl)
theorem am_4 : Cond.code yX0_opens cX0_opens 5 (some .boolean) ∈ lw_tbl := a_in3 (List.mem_of_getElem? (i := 69) rfl)
theorem am_5 : Cond.code yX0_next cX0_next 4 (some .int) ∈ lw_tbl := a_in3 (List.mem_of_getElem? (i := 73) rfl)
theorem am_6 : Cond.code yX0_isOf cX0_isOf 2 (some .boolean) ∈ lw_tbl := a_in3 (List.mem_of_getElem? (i := 90) rfl)
theorem am_7 : Cond.code yX0_isUnder cX0_isUnder 4 (some .boolean) ∈ lw_tbl := a_in4 (List.mem_of_getElem? (i := 106) rfl)
theorem am_8 : Cond.code yX1_init cX1_init 1 none ∈ lw_tbl := a_in1 (List.mem_of_getElem? (i := 31) rfl)
theorem am_9 : Cond.code yX1_obey cX1_obey 3 none ∈ lw_tbl := a_in2 (List.mem_of_getElem? (i := 115) rfl)
theorem am_10 : Cond.code yX1_foresee cX1_foresee 3 none ∈ lw_tbl := a_in2 (List.mem_of_getElem? (i := 119) rfl)
theorem am_11 : Cond.code yX1_doorAt cX1_doorAt 2 (some (.object "DoorsRemember$Door")) ∈ lw_tbl := a_in2 (List.mem_of_getElem? (i := 123) rfl)
theorem am_12 : Cond.code yX1_openings cX1_openings 9 (some .long) ∈ lw_tbl := a_in2 (List.mem_of_getElem? (i := 127) rfl)
theorem am_13 : Cond.code yX1_name cX1_name 7 none ∈ lw_tbl := a_in2 (List.mem_of_getElem? (i := 139) rfl)
theorem am_14 : Cond.code yX1_hasRoom cX1_hasRoom 2 (some .boolean) ∈ lw_tbl := a_in2 (List.mem_of_getElem? (i := 203) rfl)
theorem am_15 : Cond.code yX1_add cX1_add 2 (some .int) ∈ lw_tbl := a_in3 (List.mem_of_getElem? (i := 6) rfl)
theorem am_16 : Cond.code yX1_highestRoomOfDoors cX1_highestRoomOfDoors 4 (some .int) ∈ lw_tbl := a_in3 (List.mem_of_getElem? (i := 49) rfl)
theorem am_17 : Cond.code yX1_opens cX1_opens 6 (some .boolean) ∈ lw_tbl := a_in3 (List.mem_of_getElem? (i := 58) rfl)
theorem am_18 : Cond.code yX1_keyState cX1_keyState 3 (some .int) ∈ lw_tbl := a_in3 (List.mem_of_getElem? (i := 64) rfl)
theorem am_19 : Cond.code yX1_openDoors cX1_openDoors 4 (some .int) ∈ lw_tbl := a_in3 (List.mem_of_getElem? (i := 82) rfl)
theorem am_20 : Cond.code yX1_behind cX1_behind 6 (some .int) ∈ lw_tbl := a_in3 (List.mem_of_getElem? (i := 86) rfl)
theorem am_21 : Cond.code yX1_isWell cX1_isWell 3 (some .boolean) ∈ lw_tbl := a_in3 (List.mem_of_getElem? (i := 115) rfl)
theorem am_22 : Cond.code yX1_cost cX1_cost 6 (some .int) ∈ lw_tbl := a_in4 (List.mem_of_getElem? (i := 8) rfl)
theorem am_23 : Cond.code yX1_turnInto cX1_turnInto 4 none ∈ lw_tbl := a_in4 (List.mem_of_getElem? (i := 40) rfl)
theorem am_24 : Cond.code yX2_init cX2_init 1 none ∈ lw_tbl := a_in1 (List.mem_of_getElem? (i := 99) rfl)
theorem am_25 : Cond.code yX2_append cX2_append 2 none ∈ lw_tbl := a_in1 (List.mem_of_getElem? (i := 196) rfl)
theorem am_26 : Cond.code yX2_read cX2_read 3 (some .int) ∈ lw_tbl := a_in1 (List.mem_of_getElem? (i := 204) rfl)
theorem am_27 : Cond.code yX2_advance cX2_advance 2 none ∈ lw_tbl := a_in1 (List.mem_of_getElem? (i := 215) rfl)
theorem am_28 : Cond.code yX2_byteAt cX2_byteAt 2 (some .int) ∈ lw_tbl := a_in1 (List.mem_of_getElem? (i := 219) rfl)
theorem am_29 : Cond.code yX2_isLetter cX2_isLetter 1 (some .boolean) ∈ lw_tbl := a_in1 (List.mem_of_getElem? (i := 222) rfl)
theorem am_30 : Cond.code yX2_readWord cX2_readWord 2 none ∈ lw_tbl := a_in1 (List.mem_of_getElem? (i := 226) rfl)
theorem am_31 : Cond.code yX2_wordNumber cX2_wordNumber 8 (some .int) ∈ lw_tbl := a_in1 (List.mem_of_getElem? (i := 230) rfl)
theorem am_32 : Cond.code yX2_isDigit cX2_isDigit 1 (some .boolean) ∈ lw_tbl := a_in1 (List.mem_of_getElem? (i := 236) rfl)
theorem am_33 : Cond.code yX2_readNumber cX2_readNumber 1 none ∈ lw_tbl := a_in2 (List.mem_of_getElem? (i := 0) rfl)
theorem am_34 : Cond.code yX2_isSign cX2_isSign 1 (some .boolean) ∈ lw_tbl := a_in2 (List.mem_of_getElem? (i := 3) rfl)
theorem am_35 : Cond.code yX2_readOr cX2_readOr 4 (some .boolean) ∈ lw_tbl := a_in2 (List.mem_of_getElem? (i := 67) rfl)
theorem am_36 : Cond.code yX2_readAnd cX2_readAnd 4 (some .boolean) ∈ lw_tbl := a_in2 (List.mem_of_getElem? (i := 71) rfl)
theorem am_37 : Cond.code yX2_readNot cX2_readNot 3 (some .boolean) ∈ lw_tbl := a_in2 (List.mem_of_getElem? (i := 75) rfl)
theorem am_38 : Cond.code yX2_readComparison cX2_readComparison 4 (some .boolean) ∈ lw_tbl := a_in2 (List.mem_of_getElem? (i := 79) rfl)
theorem am_39 : Cond.code yX2_readSum cX2_readSum 5 (some .boolean) ∈ lw_tbl := a_in2 (List.mem_of_getElem? (i := 83) rfl)
theorem am_40 : Cond.code yX2_readTerm cX2_readTerm 4 (some .boolean) ∈ lw_tbl := a_in2 (List.mem_of_getElem? (i := 87) rfl)
theorem am_41 : Cond.code yX2_readOne cX2_readOne 3 (some .boolean) ∈ lw_tbl := a_in2 (List.mem_of_getElem? (i := 91) rfl)
theorem am_42 : Cond.code yX2_readNegative cX2_readNegative 3 (some .boolean) ∈ lw_tbl := a_in2 (List.mem_of_getElem? (i := 99) rfl)
theorem am_43 : Cond.code yX2_readBraced cX2_readBraced 3 (some .boolean) ∈ lw_tbl := a_in2 (List.mem_of_getElem? (i := 103) rfl)
theorem am_44 : Cond.code yX3_init cX3_init 1 none ∈ lw_tbl := a_in1 (List.mem_of_getElem? (i := 81) rfl)
theorem am_45 : Cond.code yX3_from cX3_from 7 none ∈ lw_tbl := a_in3 (List.mem_of_getElem? (i := 132) rfl)
theorem am_46 : Cond.code yX3_add cX3_add 3 none ∈ lw_tbl := a_in3 (List.mem_of_getElem? (i := 139) rfl)
theorem am_47 : Cond.code yX3_isMarked cX3_isMarked 3 (some .boolean) ∈ lw_tbl := a_in3 (List.mem_of_getElem? (i := 143) rfl)
theorem am_48 : Cond.code yX3_mark cX3_mark 3 none ∈ lw_tbl := a_in3 (List.mem_of_getElem? (i := 147) rfl)
theorem am_49 : Cond.code yX3_situationAt cX3_situationAt 2 (some .int) ∈ lw_tbl := a_in3 (List.mem_of_getElem? (i := 151) rfl)
theorem am_50 : Cond.code yX3_rooms cX3_rooms 3 (some .int) ∈ lw_tbl := a_in3 (List.mem_of_getElem? (i := 156) rfl)
theorem am_51 : Cond.code yX3_farthest cX3_farthest 1 (some .int) ∈ lw_tbl := a_in3 (List.mem_of_getElem? (i := 161) rfl)
theorem am_52 : Cond.code yX3_doorsTo cX3_doorsTo 4 (some .int) ∈ lw_tbl := a_in3 (List.mem_of_getElem? (i := 165) rfl)
theorem am_53 : Cond.code yX3_placeAhead cX3_placeAhead 2 (some .int) ∈ lw_tbl := a_in3 (List.mem_of_getElem? (i := 169) rfl)
theorem am_54 : Cond.code yX3_lastOnes cX3_lastOnes 4 (some .int) ∈ lw_tbl := a_in3 (List.mem_of_getElem? (i := 173) rfl)
theorem am_55 : Cond.code yX3_placeOfRoom cX3_placeOfRoom 3 (some .int) ∈ lw_tbl := a_in3 (List.mem_of_getElem? (i := 182) rfl)
theorem am_56 : Cond.code yX3_doorOnTheWay cX3_doorOnTheWay 8 (some .int) ∈ lw_tbl := a_in3 (List.mem_of_getElem? (i := 191) rfl)
theorem am_57 : Cond.code yX3_roomsCutOffFrom cX3_roomsCutOffFrom 7 (some .int) ∈ lw_tbl := a_in3 (List.mem_of_getElem? (i := 199) rfl)
theorem am_58 : Cond.code yX3_leadsTo cX3_leadsTo 6 (some .boolean) ∈ lw_tbl := a_in3 (List.mem_of_getElem? (i := 203) rfl)
theorem am_59 : Cond.code yX3_placeOfWell cX3_placeOfWell 3 (some .int) ∈ lw_tbl := a_in3 (List.mem_of_getElem? (i := 211) rfl)
theorem am_60 : Cond.code yX3_doorsAround cX3_doorsAround 5 (some .int) ∈ lw_tbl := a_in3 (List.mem_of_getElem? (i := 220) rfl)
theorem am_61 : Cond.code yX4_init cX4_init 1 none ∈ lw_tbl := a_in1 (List.mem_of_getElem? (i := 128) rfl)
theorem am_62 : Cond.code yX4_isMissing cX4_isMissing 1 (some .boolean) ∈ lw_tbl := a_in3 (List.mem_of_getElem? (i := 232) rfl)
theorem am_63 : Cond.code yX4_item cX4_item 2 (some .int) ∈ lw_tbl := a_in3 (List.mem_of_getElem? (i := 236) rfl)
theorem am_64 : Cond.code yX4_has cX4_has 2 (some .boolean) ∈ lw_tbl := a_in4 (List.mem_of_getElem? (i := 0) rfl)
theorem am_65 : Cond.code yX4_begin cX4_begin 3 none ∈ lw_tbl := a_in4 (List.mem_of_getElem? (i := 71) rfl)
theorem am_66 : Cond.code yX4_put cX4_put 3 none ∈ lw_tbl := a_in4 (List.mem_of_getElem? (i := 83) rfl)
theorem am_67 : Cond.code yX4_hasAll cX4_hasAll 3 (some .boolean) ∈ lw_tbl := a_in4 (List.mem_of_getElem? (i := 91) rfl)
theorem am_68 : Cond.code yX6_init cX6_init 1 none ∈ lw_tbl := a_in1 (List.mem_of_getElem? (i := 39) rfl)
theorem am_69 : Cond.code yX6_clear cX6_clear 1 none ∈ lw_tbl := a_in1 (List.mem_of_getElem? (i := 208) rfl)
theorem am_70 : Cond.code yX6_emit cX6_emit 2 none ∈ lw_tbl := a_in2 (List.mem_of_getElem? (i := 95) rfl)
theorem am_71 : Cond.code yX6_endPart cX6_endPart 2 none ∈ lw_tbl := a_in2 (List.mem_of_getElem? (i := 107) rfl)
theorem am_72 : Cond.code yX6_answer cX6_answer 7 (some .int) ∈ lw_tbl := a_in2 (List.mem_of_getElem? (i := 143) rfl)
theorem am_73 : Cond.code yX6_push cX6_push 2 none ∈ lw_tbl := a_in2 (List.mem_of_getElem? (i := 147) rfl)
theorem am_74 : Cond.code yX6_pop cX6_pop 1 (some .int) ∈ lw_tbl := a_in2 (List.mem_of_getElem? (i := 151) rfl)
theorem am_75 : Cond.code yX6_ofTwo cX6_ofTwo 3 (some .int) ∈ lw_tbl := a_in2 (List.mem_of_getElem? (i := 154) rfl)
theorem am_76 : Cond.code yX7_init cX7_init 2 none ∈ lw_tbl := a_in1 (List.mem_of_getElem? (i := 23) rfl)
theorem am_77 : Cond.code yX7_readNextText cX7_readNextText 3 (some .int) ∈ lw_tbl := a_in1 (List.mem_of_getElem? (i := 200) rfl)
theorem am_78 : Cond.code yX7_takeRule cX7_takeRule 2 none ∈ lw_tbl := a_in2 (List.mem_of_getElem? (i := 111) rfl)
theorem am_79 : Cond.code yX7_door cX7_door 7 (some .int) ∈ lw_tbl := a_in2 (List.mem_of_getElem? (i := 199) rfl)
theorem am_80 : Cond.code yX7_set cX7_set 4 (some .int) ∈ lw_tbl := a_in3 (List.mem_of_getElem? (i := 10) rfl)
theorem am_81 : Cond.code yX7_setState cX7_setState 4 (some .int) ∈ lw_tbl := a_in3 (List.mem_of_getElem? (i := 14) rfl)
theorem am_82 : Cond.code yX7_setTurn cX7_setTurn 3 (some .int) ∈ lw_tbl := a_in3 (List.mem_of_getElem? (i := 25) rfl)
theorem am_83 : Cond.code yX7_setRoom cX7_setRoom 3 (some .int) ∈ lw_tbl := a_in3 (List.mem_of_getElem? (i := 35) rfl)
theorem am_84 : Cond.code yX7_setRoomCount cX7_setRoomCount 3 (some .int) ∈ lw_tbl := a_in3 (List.mem_of_getElem? (i := 45) rfl)
theorem am_85 : Cond.code yX7_told cX7_told 4 (some .int) ∈ lw_tbl := a_in3 (List.mem_of_getElem? (i := 54) rfl)
theorem am_86 : Cond.code yX7_open cX7_open 1 (some .int) ∈ lw_tbl := a_in3 (List.mem_of_getElem? (i := 78) rfl)
theorem am_87 : Cond.code yX7_feed cX7_feed 5 (some .int) ∈ lw_tbl := a_in3 (List.mem_of_getElem? (i := 99) rfl)
theorem am_88 : Cond.code yX7_text cX7_text 1 (some .int) ∈ lw_tbl := a_in3 (List.mem_of_getElem? (i := 103) rfl)
theorem am_89 : Cond.code yX7_force cX7_force 3 (some .int) ∈ lw_tbl := a_in3 (List.mem_of_getElem? (i := 107) rfl)
theorem am_90 : Cond.code yX7_well cX7_well 1 (some .int) ∈ lw_tbl := a_in3 (List.mem_of_getElem? (i := 111) rfl)
theorem am_91 : Cond.code yX7_go cX7_go 3 (some .int) ∈ lw_tbl := a_in3 (List.mem_of_getElem? (i := 123) rfl)
theorem am_92 : Cond.code yX7_come cX7_come 2 (some .int) ∈ lw_tbl := a_in3 (List.mem_of_getElem? (i := 128) rfl)
theorem am_93 : Cond.code yX7_shortest cX7_shortest 2 (some .int) ∈ lw_tbl := a_in3 (List.mem_of_getElem? (i := 178) rfl)
theorem am_94 : Cond.code yX7_first cX7_first 3 (some .int) ∈ lw_tbl := a_in3 (List.mem_of_getElem? (i := 187) rfl)
theorem am_95 : Cond.code yX7_shutIn cX7_shutIn 2 (some .int) ∈ lw_tbl := a_in3 (List.mem_of_getElem? (i := 195) rfl)
theorem am_96 : Cond.code yX7_wished cX7_wished 1 (some .int) ∈ lw_tbl := a_in3 (List.mem_of_getElem? (i := 207) rfl)
theorem am_97 : Cond.code yX7_found cX7_found 1 (some .int) ∈ lw_tbl := a_in3 (List.mem_of_getElem? (i := 216) rfl)
theorem am_98 : Cond.code yX7_judge cX7_judge 5 (some .int) ∈ lw_tbl := a_in3 (List.mem_of_getElem? (i := 224) rfl)
theorem am_99 : Cond.code yX7_sheetAt cX7_sheetAt 2 (some (.object "DoorsRemember$Sheet")) ∈ lw_tbl := a_in3 (List.mem_of_getElem? (i := 228) rfl)
theorem am_100 : Cond.code yX7_row cX7_row 8 (some .int) ∈ lw_tbl := a_in4 (List.mem_of_getElem? (i := 4) rfl)
theorem am_101 : Cond.code yX7_heard cX7_heard 4 (some .int) ∈ lw_tbl := a_in4 (List.mem_of_getElem? (i := 13) rfl)
theorem am_102 : Cond.code yX7_roomsOfBeginning cX7_roomsOfBeginning 4 (some .int) ∈ lw_tbl := a_in4 (List.mem_of_getElem? (i := 17) rfl)
theorem am_103 : Cond.code yX7_canGoAllOf cX7_canGoAllOf 4 (some .boolean) ∈ lw_tbl := a_in4 (List.mem_of_getElem? (i := 21) rfl)
theorem am_104 : Cond.code yX7_situationsOfBeginning cX7_situationsOfBeginning 7 (some .int) ∈ lw_tbl := a_in4 (List.mem_of_getElem? (i := 25) rfl)
theorem am_105 : Cond.code yX7_oil cX7_oil 5 (some .int) ∈ lw_tbl := a_in4 (List.mem_of_getElem? (i := 32) rfl)
theorem am_106 : Cond.code yX7_roomsOnceOiled cX7_roomsOnceOiled 4 (some .int) ∈ lw_tbl := a_in4 (List.mem_of_getElem? (i := 36) rfl)
theorem am_107 : Cond.code yX7_thief cX7_thief 3 (some .int) ∈ lw_tbl := a_in4 (List.mem_of_getElem? (i := 50) rfl)
theorem am_108 : Cond.code yX7_image cX7_image 1 (some .int) ∈ lw_tbl := a_in4 (List.mem_of_getElem? (i := 54) rfl)
theorem am_109 : Cond.code yX7_back cX7_back 3 (some .int) ∈ lw_tbl := a_in4 (List.mem_of_getElem? (i := 58) rfl)
theorem am_110 : Cond.code yX7_count cX7_count 2 (some .int) ∈ lw_tbl := a_in4 (List.mem_of_getElem? (i := 62) rfl)
theorem am_111 : Cond.code yX7_sheet cX7_sheet 5 (some .int) ∈ lw_tbl := a_in4 (List.mem_of_getElem? (i := 67) rfl)
theorem am_112 : Cond.code yX7_cell cX7_cell 5 (some .int) ∈ lw_tbl := a_in4 (List.mem_of_getElem? (i := 78) rfl)
theorem am_113 : Cond.code yX7_copy cX7_copy 8 (some .int) ∈ lw_tbl := a_in4 (List.mem_of_getElem? (i := 87) rfl)
theorem am_114 : Cond.code yX7_doors cX7_doors 9 (some .int) ∈ lw_tbl := a_in4 (List.mem_of_getElem? (i := 98) rfl)
theorem am_115 : Cond.code yX7_taken cX7_taken 4 (some .int) ∈ lw_tbl := a_in4 (List.mem_of_getElem? (i := 103) rfl)
theorem am_116 : Cond.code yX8_init cX8_init 3 none ∈ lw_tbl := a_in4 (List.mem_of_getElem? (i := 113) rfl)
theorem am_117 : Cond.code yX8_door cX8_door 4 (some .int) ∈ lw_tbl := a_in5 (List.mem_of_getElem? (i := 24) rfl)
theorem am_118 : Cond.code yX8_in cX8_in 6 (some .boolean) ∈ lw_tbl := a_in5 (List.mem_of_getElem? (i := 28) rfl)
theorem am_119 : Cond.code yX8_isRoom cX8_isRoom 2 (some .boolean) ∈ lw_tbl := a_in5 (List.mem_of_getElem? (i := 32) rfl)
theorem am_120 : Cond.code yX8_set cX8_set 5 (some .int) ∈ lw_tbl := a_in5 (List.mem_of_getElem? (i := 38) rfl)
theorem am_121 : Cond.code yX8_isDoor cX8_isDoor 2 (some .boolean) ∈ lw_tbl := a_in5 (List.mem_of_getElem? (i := 42) rfl)
theorem am_122 : Cond.code yX8_mayBeRooms cX8_mayBeRooms 3 (some .boolean) ∈ lw_tbl := a_in5 (List.mem_of_getElem? (i := 46) rfl)
theorem am_123 : Cond.code yX8_told cX8_told 3 (some .int) ∈ lw_tbl := a_in5 (List.mem_of_getElem? (i := 51) rfl)
theorem am_124 : Cond.code yX8_asIs cX8_asIs 2 none ∈ lw_tbl := a_in5 (List.mem_of_getElem? (i := 55) rfl)
theorem am_125 : Cond.code yX8_isOpen cX8_isOpen 3 (some .boolean) ∈ lw_tbl := a_in5 (List.mem_of_getElem? (i := 59) rfl)
theorem am_126 : Cond.code yX8_opensByKind cX8_opensByKind 3 (some .boolean) ∈ lw_tbl := a_in5 (List.mem_of_getElem? (i := 63) rfl)
theorem am_127 : Cond.code yX8_keyState cX8_keyState 2 (some .int) ∈ lw_tbl := a_in5 (List.mem_of_getElem? (i := 67) rfl)
theorem am_128 : Cond.code yX8_work cX8_work 7 (some .int) ∈ lw_tbl := a_in5 (List.mem_of_getElem? (i := 71) rfl)
theorem am_129 : Cond.code yX8_sumOf cX8_sumOf 3 (some .int) ∈ lw_tbl := a_in5 (List.mem_of_getElem? (i := 75) rfl)
theorem am_130 : Cond.code yX8_beyond cX8_beyond 3 (some .int) ∈ lw_tbl := a_in5 (List.mem_of_getElem? (i := 79) rfl)
theorem am_131 : Cond.code yX8_reckon cX8_reckon 3 (some .int) ∈ lw_tbl := a_in5 (List.mem_of_getElem? (i := 82) rfl)
theorem am_132 : Cond.code yX8_nextState cX8_nextState 4 (some .int) ∈ lw_tbl := a_in5 (List.mem_of_getElem? (i := 86) rfl)
theorem am_133 : Cond.code yX8_open cX8_open 3 (some .int) ∈ lw_tbl := a_in5 (List.mem_of_getElem? (i := 90) rfl)
theorem am_134 : Cond.code yX8_canGo cX8_canGo 2 (some .boolean) ∈ lw_tbl := a_in5 (List.mem_of_getElem? (i := 94) rfl)
theorem am_135 : Cond.code yX8_isHere cX8_isHere 2 (some .boolean) ∈ lw_tbl := a_in5 (List.mem_of_getElem? (i := 98) rfl)
theorem am_136 : Cond.code yX8_feed cX8_feed 5 (some .int) ∈ lw_tbl := a_in5 (List.mem_of_getElem? (i := 102) rfl)
theorem am_137 : Cond.code yX8_text cX8_text 2 (some .int) ∈ lw_tbl := a_in5 (List.mem_of_getElem? (i := 108) rfl)
theorem am_138 : Cond.code yX8_next cX8_next 3 none ∈ lw_tbl := a_in5 (List.mem_of_getElem? (i := 112) rfl)
theorem am_139 : Cond.code yX8_byteAt cX8_byteAt 2 (some .int) ∈ lw_tbl := a_in5 (List.mem_of_getElem? (i := 116) rfl)
theorem am_140 : Cond.code yX8_isLetter cX8_isLetter 1 (some .boolean) ∈ lw_tbl := a_in5 (List.mem_of_getElem? (i := 119) rfl)
theorem am_141 : Cond.code yX8_wordOf cX8_wordOf 5 (some .int) ∈ lw_tbl := a_in5 (List.mem_of_getElem? (i := 125) rfl)
theorem am_142 : Cond.code yX8_isDigit cX8_isDigit 1 (some .boolean) ∈ lw_tbl := a_in5 (List.mem_of_getElem? (i := 128) rfl)
theorem am_143 : Cond.code yX8_isSignByte cX8_isSignByte 1 (some .boolean) ∈ lw_tbl := a_in5 (List.mem_of_getElem? (i := 133) rfl)
theorem am_144 : Cond.code yX8_isKey cX8_isKey 2 (some .boolean) ∈ lw_tbl := a_in5 (List.mem_of_getElem? (i := 137) rfl)
theorem am_145 : Cond.code yX8_wrong cX8_wrong 1 none ∈ lw_tbl := a_in5 (List.mem_of_getElem? (i := 141) rfl)
theorem am_146 : Cond.code yX8_either cX8_either 1 none ∈ lw_tbl := a_in5 (List.mem_of_getElem? (i := 145) rfl)
theorem am_147 : Cond.code yX8_both cX8_both 1 none ∈ lw_tbl := a_in5 (List.mem_of_getElem? (i := 149) rfl)
theorem am_148 : Cond.code yX8_not cX8_not 2 none ∈ lw_tbl := a_in5 (List.mem_of_getElem? (i := 153) rfl)
theorem am_149 : Cond.code yX8_opens cX8_opens 1 (some .boolean) ∈ lw_tbl := a_in5 (List.mem_of_getElem? (i := 157) rfl)
theorem am_150 : Cond.code yX8_adds cX8_adds 2 none ∈ lw_tbl := a_in5 (List.mem_of_getElem? (i := 161) rfl)
theorem am_151 : Cond.code yX8_sum cX8_sum 2 none ∈ lw_tbl := a_in5 (List.mem_of_getElem? (i := 165) rfl)
theorem am_152 : Cond.code yX8_term cX8_term 1 none ∈ lw_tbl := a_in5 (List.mem_of_getElem? (i := 169) rfl)
theorem am_153 : Cond.code yX8_one cX8_one 2 none ∈ lw_tbl := a_in5 (List.mem_of_getElem? (i := 173) rfl)
theorem am_154 : Cond.code yX8_isSign cX8_isSign 2 (some .boolean) ∈ lw_tbl := a_in5 (List.mem_of_getElem? (i := 177) rfl)
theorem am_155 : Cond.code yX8_force cX8_force 3 (some .int) ∈ lw_tbl := a_in5 (List.mem_of_getElem? (i := 181) rfl)
theorem am_156 : Cond.code yX8_well cX8_well 1 (some .int) ∈ lw_tbl := a_in5 (List.mem_of_getElem? (i := 185) rfl)
theorem am_157 : Cond.code yX8_isWell cX8_isWell 1 (some .boolean) ∈ lw_tbl := a_in5 (List.mem_of_getElem? (i := 189) rfl)
theorem am_158 : Cond.code yX8_go cX8_go 2 (some .int) ∈ lw_tbl := a_in5 (List.mem_of_getElem? (i := 193) rfl)
theorem am_159 : Cond.code yX8_goes cX8_goes 3 none ∈ lw_tbl := a_in5 (List.mem_of_getElem? (i := 197) rfl)
theorem am_160 : Cond.code yX8_come cX8_come 4 (some .int) ∈ lw_tbl := a_in5 (List.mem_of_getElem? (i := 201) rfl)
theorem am_161 : Cond.code yX8_findAll cX8_findAll 5 none ∈ lw_tbl := a_in5 (List.mem_of_getElem? (i := 205) rfl)
theorem am_162 : Cond.code yX8_code cX8_code 3 (some .int) ∈ lw_tbl := a_in5 (List.mem_of_getElem? (i := 210) rfl)
theorem am_163 : Cond.code yX8_takes cX8_takes 4 none ∈ lw_tbl := a_in5 (List.mem_of_getElem? (i := 214) rfl)
theorem am_164 : Cond.code yX8_roomsCome cX8_roomsCome 3 (some .int) ∈ lw_tbl := a_in5 (List.mem_of_getElem? (i := 218) rfl)
theorem am_165 : Cond.code yX8_roomOf cX8_roomOf 1 (some .int) ∈ lw_tbl := a_in5 (List.mem_of_getElem? (i := 221) rfl)
theorem am_166 : Cond.code yX8_isLast cX8_isLast 3 (some .boolean) ∈ lw_tbl := a_in5 (List.mem_of_getElem? (i := 225) rfl)
theorem am_167 : Cond.code yX8_shortest cX8_shortest 2 (some .int) ∈ lw_tbl := a_in5 (List.mem_of_getElem? (i := 229) rfl)
theorem am_168 : Cond.code yX8_shortestTo cX8_shortestTo 3 (some .int) ∈ lw_tbl := a_in5 (List.mem_of_getElem? (i := 233) rfl)
theorem am_169 : Cond.code yX8_first cX8_first 6 (some .int) ∈ lw_tbl := a_in5 (List.mem_of_getElem? (i := 237) rfl)
theorem am_170 : Cond.code yX8_findStill cX8_findStill 7 none ∈ lw_tbl := a_in6 (List.mem_of_getElem? (i := 1) rfl)
theorem am_171 : Cond.code yX8_shutIn cX8_shutIn 4 (some .int) ∈ lw_tbl := a_in6 (List.mem_of_getElem? (i := 5) rfl)
theorem am_172 : Cond.code yX8_wished cX8_wished 2 (some .int) ∈ lw_tbl := a_in6 (List.mem_of_getElem? (i := 9) rfl)
theorem am_173 : Cond.code yX8_found cX8_found 5 (some .int) ∈ lw_tbl := a_in6 (List.mem_of_getElem? (i := 13) rfl)
theorem am_174 : Cond.code yX8_judge cX8_judge 3 (some .int) ∈ lw_tbl := a_in6 (List.mem_of_getElem? (i := 17) rfl)
theorem am_175 : Cond.code yX8_isSheet cX8_isSheet 1 (some .boolean) ∈ lw_tbl := a_in6 (List.mem_of_getElem? (i := 20) rfl)
theorem am_176 : Cond.code yX8_goesRow cX8_goesRow 4 (some .int) ∈ lw_tbl := a_in6 (List.mem_of_getElem? (i := 24) rfl)
theorem am_177 : Cond.code yX8_costOf cX8_costOf 3 (some .int) ∈ lw_tbl := a_in6 (List.mem_of_getElem? (i := 28) rfl)
theorem am_178 : Cond.code yX8_row cX8_row 4 (some .int) ∈ lw_tbl := a_in6 (List.mem_of_getElem? (i := 32) rfl)
theorem am_179 : Cond.code yX8_heard cX8_heard 3 (some .int) ∈ lw_tbl := a_in6 (List.mem_of_getElem? (i := 36) rfl)
theorem am_180 : Cond.code yX8_heardRooms cX8_heardRooms 4 (some .int) ∈ lw_tbl := a_in6 (List.mem_of_getElem? (i := 40) rfl)
theorem am_181 : Cond.code yX8_heardMany cX8_heardMany 6 (some .int) ∈ lw_tbl := a_in6 (List.mem_of_getElem? (i := 44) rfl)
theorem am_182 : Cond.code yX8_oil cX8_oil 5 (some .int) ∈ lw_tbl := a_in6 (List.mem_of_getElem? (i := 48) rfl)
theorem am_183 : Cond.code yX8_bitsOf cX8_bitsOf 3 (some .int) ∈ lw_tbl := a_in6 (List.mem_of_getElem? (i := 51) rfl)
theorem am_184 : Cond.code yX8_thief cX8_thief 3 (some .int) ∈ lw_tbl := a_in6 (List.mem_of_getElem? (i := 55) rfl)
theorem am_185 : Cond.code yX8_image cX8_image 2 (some .int) ∈ lw_tbl := a_in6 (List.mem_of_getElem? (i := 59) rfl)
theorem am_186 : Cond.code yX8_back cX8_back 2 (some .int) ∈ lw_tbl := a_in6 (List.mem_of_getElem? (i := 63) rfl)
theorem am_187 : Cond.code yX8_count cX8_count 2 (some .int) ∈ lw_tbl := a_in6 (List.mem_of_getElem? (i := 67) rfl)
theorem am_188 : Cond.code yX8_sheet cX8_sheet 5 (some .int) ∈ lw_tbl := a_in6 (List.mem_of_getElem? (i := 71) rfl)
theorem am_189 : Cond.code yX8_cell cX8_cell 4 (some .int) ∈ lw_tbl := a_in6 (List.mem_of_getElem? (i := 77) rfl)
theorem am_190 : Cond.code yX8_copy cX8_copy 7 (some .int) ∈ lw_tbl := a_in6 (List.mem_of_getElem? (i := 81) rfl)
theorem am_191 : Cond.code yX8_doors cX8_doors 8 (some .int) ∈ lw_tbl := a_in6 (List.mem_of_getElem? (i := 85) rfl)
theorem am_192 : Cond.code yX8_taken cX8_taken 4 (some .int) ∈ lw_tbl := a_in6 (List.mem_of_getElem? (i := 91) rfl)
theorem am_193 : Cond.code yX8_over cX8_over 1 (some .int) ∈ lw_tbl := a_in6 (List.mem_of_getElem? (i := 94) rfl)
theorem am_194 : Cond.code yX5_stateOf cX5_stateOf 2 (some .int) ∈ lw_tbl := a_in3 (List.mem_of_getElem? (i := 18) rfl)
theorem am_195 : Cond.code yX5_withState cX5_withState 3 (some .int) ∈ lw_tbl := a_in3 (List.mem_of_getElem? (i := 21) rfl)
theorem am_196 : Cond.code yX5_turnOf cX5_turnOf 1 (some .int) ∈ lw_tbl := a_in3 (List.mem_of_getElem? (i := 28) rfl)
theorem am_197 : Cond.code yX5_withTurn cX5_withTurn 2 (some .int) ∈ lw_tbl := a_in3 (List.mem_of_getElem? (i := 31) rfl)
theorem am_198 : Cond.code yX5_roomOf cX5_roomOf 1 (some .int) ∈ lw_tbl := a_in3 (List.mem_of_getElem? (i := 38) rfl)
theorem am_199 : Cond.code yX5_withRoom cX5_withRoom 2 (some .int) ∈ lw_tbl := a_in3 (List.mem_of_getElem? (i := 41) rfl)
theorem am_200 : Cond.code yX5_statesTogether cX5_statesTogether 3 (some .int) ∈ lw_tbl := a_in3 (List.mem_of_getElem? (i := 118) rfl)
theorem am_201 : Cond.code yX5_of cX5_of 3 (some .int) ∈ lw_tbl := a_in4 (List.mem_of_getElem? (i := 28) rfl)
theorem am_202 : Cond.code yJ0_length_8abf5 cJ0_length_8abf5 1 (some .int) ∈ lw_tbl := a_in1 (List.mem_of_getElem? (i := 148) rfl)
theorem am_203 : Cond.code yJ0_coder_7d493 cJ0_coder_7d493 1 (some .byte) ∈ lw_tbl := a_in1 (List.mem_of_getElem? (i := 152) rfl)
theorem am_204 : Cond.code yJ0_charAt_5068e cJ0_charAt_5068e 2 (some .char) ∈ lw_tbl := a_in1 (List.mem_of_getElem? (i := 158) rfl)
theorem am_205 : Cond.code yJ0_isLatin1_aae02 cJ0_isLatin1_aae02 1 (some .boolean) ∈ lw_tbl := a_in1 (List.mem_of_getElem? (i := 162) rfl)
theorem am_206 : Cond.code yJ0_checkIndex_df160 cJ0_checkIndex_df160 2 none ∈ lw_tbl := a_in1 (List.mem_of_getElem? (i := 168) rfl)
theorem am_207 : Cond.code yJ0_indexOf_0f7a4 cJ0_indexOf_0f7a4 2 (some .int) ∈ lw_tbl := a_in2 (List.mem_of_getElem? (i := 8) rfl)
theorem am_208 : Cond.code yJ0_indexOf_7cf53 cJ0_indexOf_7cf53 3 (some .int) ∈ lw_tbl := a_in2 (List.mem_of_getElem? (i := 12) rfl)
theorem am_209 : Cond.code yJ1_charAt_3b067 cJ1_charAt_3b067 2 (some .char) ∈ lw_tbl := a_in1 (List.mem_of_getElem? (i := 165) rfl)
theorem am_210 : Cond.code yJ1_indexOf_4cfef cJ1_indexOf_4cfef 4 (some .int) ∈ lw_tbl := a_in2 (List.mem_of_getElem? (i := 16) rfl)
theorem am_211 : Cond.code yJ1_canEncode_9a6ad cJ1_canEncode_9a6ad 1 (some .boolean) ∈ lw_tbl := a_in2 (List.mem_of_getElem? (i := 19) rfl)
theorem am_212 : Cond.code yJ1_indexOfChar_4cfef cJ1_indexOfChar_4cfef 6 (some .int) ∈ lw_tbl := a_in2 (List.mem_of_getElem? (i := 28) rfl)
theorem am_213 : Cond.code yJ3_checkIndex_8e157 cJ3_checkIndex_8e157 3 (some .int) ∈ lw_tbl := a_in1 (List.mem_of_getElem? (i := 173) rfl)
theorem am_214 : Cond.code yJ6_bitCount_0f7a4 cJ6_bitCount_0f7a4 1 (some .int) ∈ lw_tbl := a_in4 (List.mem_of_getElem? (i := 43) rfl)
theorem am_215 : Cond.code yJ7_fill_53178 cJ7_fill_53178 4 none ∈ lw_tbl := a_in1 (List.mem_of_getElem? (i := 211) rfl)
theorem am_216 : Cond.code yJ7_fill_d0a16 cJ7_fill_d0a16 5 none ∈ lw_tbl := a_in3 (List.mem_of_getElem? (i := 135) rfl)
theorem am_object : Cond.code Lib.objectInit ⟨#[0xb1]⟩ 1 none ∈ lw_tbl := a_in1 (List.mem_of_getElem? (i := 26) rfl)
theorem am_max : Cond.code Lib.Math.max.name Lib.Math.max.code 2 (some .int) ∈ lw_tbl := a_in2 (List.mem_of_getElem? (i := 22) rfl)
theorem am_min : Cond.code Lib.Math.min.name Lib.Math.min.code 2 (some .int) ∈ lw_tbl := a_in2 (List.mem_of_getElem? (i := 25) rfl)
set_option maxRecDepth 100000 in
theorem a_ms_in : ∀ e ∈ a_ms, a_mcode e ∈ lw_tbl := by
  unfold a_ms
  exact List.forall_mem_cons.mpr ⟨am_0, List.forall_mem_cons.mpr ⟨am_1, List.forall_mem_cons.mpr ⟨am_2, List.forall_mem_cons.mpr ⟨am_3, List.forall_mem_cons.mpr ⟨am_4, List.forall_mem_cons.mpr ⟨am_5, List.forall_mem_cons.mpr ⟨am_6, List.forall_mem_cons.mpr ⟨am_7, List.forall_mem_cons.mpr ⟨am_8, List.forall_mem_cons.mpr ⟨am_9, List.forall_mem_cons.mpr ⟨am_10, List.forall_mem_cons.mpr ⟨am_11, List.forall_mem_cons.mpr ⟨am_12, List.forall_mem_cons.mpr ⟨am_13, List.forall_mem_cons.mpr ⟨am_14, List.forall_mem_cons.mpr ⟨am_15, List.forall_mem_cons.mpr ⟨am_16, List.forall_mem_cons.mpr ⟨am_17, List.forall_mem_cons.mpr ⟨am_18, List.forall_mem_cons.mpr ⟨am_19, List.forall_mem_cons.mpr ⟨am_20, List.forall_mem_cons.mpr ⟨am_21, List.forall_mem_cons.mpr ⟨am_22, List.forall_mem_cons.mpr ⟨am_23, List.forall_mem_cons.mpr ⟨am_24, List.forall_mem_cons.mpr ⟨am_25, List.forall_mem_cons.mpr ⟨am_26, List.forall_mem_cons.mpr ⟨am_27, List.forall_mem_cons.mpr ⟨am_28, List.forall_mem_cons.mpr ⟨am_29, List.forall_mem_cons.mpr ⟨am_30, List.forall_mem_cons.mpr ⟨am_31, List.forall_mem_cons.mpr ⟨am_32, List.forall_mem_cons.mpr ⟨am_33, List.forall_mem_cons.mpr ⟨am_34, List.forall_mem_cons.mpr ⟨am_35, List.forall_mem_cons.mpr ⟨am_36, List.forall_mem_cons.mpr ⟨am_37, List.forall_mem_cons.mpr ⟨am_38, List.forall_mem_cons.mpr ⟨am_39, List.forall_mem_cons.mpr ⟨am_40, List.forall_mem_cons.mpr ⟨am_41, List.forall_mem_cons.mpr ⟨am_42, List.forall_mem_cons.mpr ⟨am_43, List.forall_mem_cons.mpr ⟨am_44, List.forall_mem_cons.mpr ⟨am_45, List.forall_mem_cons.mpr ⟨am_46, List.forall_mem_cons.mpr ⟨am_47, List.forall_mem_cons.mpr ⟨am_48, List.forall_mem_cons.mpr ⟨am_49, List.forall_mem_cons.mpr ⟨am_50, List.forall_mem_cons.mpr ⟨am_51, List.forall_mem_cons.mpr ⟨am_52, List.forall_mem_cons.mpr ⟨am_53, List.forall_mem_cons.mpr ⟨am_54, List.forall_mem_cons.mpr ⟨am_55, List.forall_mem_cons.mpr ⟨am_56, List.forall_mem_cons.mpr ⟨am_57, List.forall_mem_cons.mpr ⟨am_58, List.forall_mem_cons.mpr ⟨am_59, List.forall_mem_cons.mpr ⟨am_60, List.forall_mem_cons.mpr ⟨am_61, List.forall_mem_cons.mpr ⟨am_62, List.forall_mem_cons.mpr ⟨am_63, List.forall_mem_cons.mpr ⟨am_64, List.forall_mem_cons.mpr ⟨am_65, List.forall_mem_cons.mpr ⟨am_66, List.forall_mem_cons.mpr ⟨am_67, List.forall_mem_cons.mpr ⟨am_68, List.forall_mem_cons.mpr ⟨am_69, List.forall_mem_cons.mpr ⟨am_70, List.forall_mem_cons.mpr ⟨am_71, List.forall_mem_cons.mpr ⟨am_72, List.forall_mem_cons.mpr ⟨am_73, List.forall_mem_cons.mpr ⟨am_74, List.forall_mem_cons.mpr ⟨am_75, List.forall_mem_cons.mpr ⟨am_76, List.forall_mem_cons.mpr ⟨am_77, List.forall_mem_cons.mpr ⟨am_78, List.forall_mem_cons.mpr ⟨am_79, List.forall_mem_cons.mpr ⟨am_80, List.forall_mem_cons.mpr ⟨am_81, List.forall_mem_cons.mpr ⟨am_82, List.forall_mem_cons.mpr ⟨am_83, List.forall_mem_cons.mpr ⟨am_84, List.forall_mem_cons.mpr ⟨am_85, List.forall_mem_cons.mpr ⟨am_86, List.forall_mem_cons.mpr ⟨am_87, List.forall_mem_cons.mpr ⟨am_88, List.forall_mem_cons.mpr ⟨am_89, List.forall_mem_cons.mpr ⟨am_90, List.forall_mem_cons.mpr ⟨am_91, List.forall_mem_cons.mpr ⟨am_92, List.forall_mem_cons.mpr ⟨am_93, List.forall_mem_cons.mpr ⟨am_94, List.forall_mem_cons.mpr ⟨am_95, List.forall_mem_cons.mpr ⟨am_96, List.forall_mem_cons.mpr ⟨am_97, List.forall_mem_cons.mpr ⟨am_98, List.forall_mem_cons.mpr ⟨am_99, List.forall_mem_cons.mpr ⟨am_100, List.forall_mem_cons.mpr ⟨am_101, List.forall_mem_cons.mpr ⟨am_102, List.forall_mem_cons.mpr ⟨am_103, List.forall_mem_cons.mpr ⟨am_104, List.forall_mem_cons.mpr ⟨am_105, List.forall_mem_cons.mpr ⟨am_106, List.forall_mem_cons.mpr ⟨am_107, List.forall_mem_cons.mpr ⟨am_108, List.forall_mem_cons.mpr ⟨am_109, List.forall_mem_cons.mpr ⟨am_110, List.forall_mem_cons.mpr ⟨am_111, List.forall_mem_cons.mpr ⟨am_112, List.forall_mem_cons.mpr ⟨am_113, List.forall_mem_cons.mpr ⟨am_114, List.forall_mem_cons.mpr ⟨am_115, List.forall_mem_cons.mpr ⟨am_116, List.forall_mem_cons.mpr ⟨am_117, List.forall_mem_cons.mpr ⟨am_118, List.forall_mem_cons.mpr ⟨am_119, List.forall_mem_cons.mpr ⟨am_120, List.forall_mem_cons.mpr ⟨am_121, List.forall_mem_cons.mpr ⟨am_122, List.forall_mem_cons.mpr ⟨am_123, List.forall_mem_cons.mpr ⟨am_124, List.forall_mem_cons.mpr ⟨am_125, List.forall_mem_cons.mpr ⟨am_126, List.forall_mem_cons.mpr ⟨am_127, List.forall_mem_cons.mpr ⟨am_128, List.forall_mem_cons.mpr ⟨am_129, List.forall_mem_cons.mpr ⟨am_130, List.forall_mem_cons.mpr ⟨am_131, List.forall_mem_cons.mpr ⟨am_132, List.forall_mem_cons.mpr ⟨am_133, List.forall_mem_cons.mpr ⟨am_134, List.forall_mem_cons.mpr ⟨am_135, List.forall_mem_cons.mpr ⟨am_136, List.forall_mem_cons.mpr ⟨am_137, List.forall_mem_cons.mpr ⟨am_138, List.forall_mem_cons.mpr ⟨am_139, List.forall_mem_cons.mpr ⟨am_140, List.forall_mem_cons.mpr ⟨am_141, List.forall_mem_cons.mpr ⟨am_142, List.forall_mem_cons.mpr ⟨am_143, List.forall_mem_cons.mpr ⟨am_144, List.forall_mem_cons.mpr ⟨am_145, List.forall_mem_cons.mpr ⟨am_146, List.forall_mem_cons.mpr ⟨am_147, List.forall_mem_cons.mpr ⟨am_148, List.forall_mem_cons.mpr ⟨am_149, List.forall_mem_cons.mpr ⟨am_150, List.forall_mem_cons.mpr ⟨am_151, List.forall_mem_cons.mpr ⟨am_152, List.forall_mem_cons.mpr ⟨am_153, List.forall_mem_cons.mpr ⟨am_154, List.forall_mem_cons.mpr ⟨am_155, List.forall_mem_cons.mpr ⟨am_156, List.forall_mem_cons.mpr ⟨am_157, List.forall_mem_cons.mpr ⟨am_158, List.forall_mem_cons.mpr ⟨am_159, List.forall_mem_cons.mpr ⟨am_160, List.forall_mem_cons.mpr ⟨am_161, List.forall_mem_cons.mpr ⟨am_162, List.forall_mem_cons.mpr ⟨am_163, List.forall_mem_cons.mpr ⟨am_164, List.forall_mem_cons.mpr ⟨am_165, List.forall_mem_cons.mpr ⟨am_166, List.forall_mem_cons.mpr ⟨am_167, List.forall_mem_cons.mpr ⟨am_168, List.forall_mem_cons.mpr ⟨am_169, List.forall_mem_cons.mpr ⟨am_170, List.forall_mem_cons.mpr ⟨am_171, List.forall_mem_cons.mpr ⟨am_172, List.forall_mem_cons.mpr ⟨am_173, List.forall_mem_cons.mpr ⟨am_174, List.forall_mem_cons.mpr ⟨am_175, List.forall_mem_cons.mpr ⟨am_176, List.forall_mem_cons.mpr ⟨am_177, List.forall_mem_cons.mpr ⟨am_178, List.forall_mem_cons.mpr ⟨am_179, List.forall_mem_cons.mpr ⟨am_180, List.forall_mem_cons.mpr ⟨am_181, List.forall_mem_cons.mpr ⟨am_182, List.forall_mem_cons.mpr ⟨am_183, List.forall_mem_cons.mpr ⟨am_184, List.forall_mem_cons.mpr ⟨am_185, List.forall_mem_cons.mpr ⟨am_186, List.forall_mem_cons.mpr ⟨am_187, List.forall_mem_cons.mpr ⟨am_188, List.forall_mem_cons.mpr ⟨am_189, List.forall_mem_cons.mpr ⟨am_190, List.forall_mem_cons.mpr ⟨am_191, List.forall_mem_cons.mpr ⟨am_192, List.forall_mem_cons.mpr ⟨am_193, List.forall_mem_cons.mpr ⟨am_194, List.forall_mem_cons.mpr ⟨am_195, List.forall_mem_cons.mpr ⟨am_196, List.forall_mem_cons.mpr ⟨am_197, List.forall_mem_cons.mpr ⟨am_198, List.forall_mem_cons.mpr ⟨am_199, List.forall_mem_cons.mpr ⟨am_200, List.forall_mem_cons.mpr ⟨am_201, List.forall_mem_cons.mpr ⟨am_202, List.forall_mem_cons.mpr ⟨am_203, List.forall_mem_cons.mpr ⟨am_204, List.forall_mem_cons.mpr ⟨am_205, List.forall_mem_cons.mpr ⟨am_206, List.forall_mem_cons.mpr ⟨am_207, List.forall_mem_cons.mpr ⟨am_208, List.forall_mem_cons.mpr ⟨am_209, List.forall_mem_cons.mpr ⟨am_210, List.forall_mem_cons.mpr ⟨am_211, List.forall_mem_cons.mpr ⟨am_212, List.forall_mem_cons.mpr ⟨am_213, List.forall_mem_cons.mpr ⟨am_214, List.forall_mem_cons.mpr ⟨am_215, List.forall_mem_cons.mpr ⟨am_216, fun _ h => absurd h List.not_mem_nil⟩⟩⟩⟩⟩⟩⟩⟩⟩⟩⟩⟩⟩⟩⟩⟩⟩⟩⟩⟩⟩⟩⟩⟩⟩⟩⟩⟩⟩⟩⟩⟩⟩⟩⟩⟩⟩⟩⟩⟩⟩⟩⟩⟩⟩⟩⟩⟩⟩⟩⟩⟩⟩⟩⟩⟩⟩⟩⟩⟩⟩⟩⟩⟩⟩⟩⟩⟩⟩⟩⟩⟩⟩⟩⟩⟩⟩⟩⟩⟩⟩⟩⟩⟩⟩⟩⟩⟩⟩⟩⟩⟩⟩⟩⟩⟩⟩⟩⟩⟩⟩⟩⟩⟩⟩⟩⟩⟩⟩⟩⟩⟩⟩⟩⟩⟩⟩⟩⟩⟩⟩⟩⟩⟩⟩⟩⟩⟩⟩⟩⟩⟩⟩⟩⟩⟩⟩⟩⟩⟩⟩⟩⟩⟩⟩⟩⟩⟩⟩⟩⟩⟩⟩⟩⟩⟩⟩⟩⟩⟩⟩⟩⟩⟩⟩⟩⟩⟩⟩⟩⟩⟩⟩⟩⟩⟩⟩⟩⟩⟩⟩⟩⟩⟩⟩⟩⟩⟩⟩⟩⟩⟩⟩⟩⟩⟩⟩⟩⟩⟩⟩⟩⟩⟩⟩⟩⟩⟩⟩⟩⟩⟩⟩⟩⟩⟩⟩
set_option maxRecDepth 100000 in
theorem a_ms_ok1 : a_ms.all (fun e => plainName e.1.cls) = true := by decide +kernel
set_option maxRecDepth 100000 in
theorem a_ms_ok2 : a_ms.all (fun e => decide (e.1.cls ≠ "java/lang/invoke/MethodHandle" ∧ e.1.cls ≠ "java/lang/invoke/VarHandle")) = true := by decide +kernel
set_option maxRecDepth 100000 in
theorem a_ms_ok3 : a_ms.all (fun e => decide ((parseMethodDescriptor e.1.desc).map (fun d => d.parameters.length) = some e.2.2.2.2.1)) = true := by decide +kernel
set_option maxRecDepth 100000 in
theorem a_ms_ok4 : a_ms.all (fun e => Nat.ble e.2.2.1 16) = true := by decide +kernel
def a_cchk (e : Nat × Nat × Nat × Nat × Nat × Nat × Nat × Nat) : Bool :=
  let o := e.1; let idx := e.2.1; let kd := e.2.2.1; let mid := e.2.2.2.1; let p1 := e.2.2.2.2.1; let p2 := e.2.2.2.2.2.1; let p3 := e.2.2.2.2.2.2.1; let p4 := e.2.2.2.2.2.2.2
  if kd = 0 then a_at p1 (.methodLink (a_cname o) idx (a_name mid)) && a_at p2 (.static (a_name mid)) && a_at p3 (.initialized (a_name mid).cls) && decide (mid < a_ms.length)
  else if kd = 1 then a_at p1 (.methodLink (a_cname o) idx (a_name mid)) && a_at p2 (.instanceMethod (a_name mid)) && a_at p3 (.selects (a_name mid).cls (a_name mid) (a_name mid)) && a_at p4 (.initialized (a_name mid).cls) && decide (mid < a_ms.length)
  else if kd = 2 then a_at p1 (.methodLink (a_cname o) idx (a_name mid)) && a_at p2 (.instanceMethod (a_name mid)) && a_at p3 (.initialized (a_name mid).cls) && decide ((a_name mid).name = "<init>") && decide (a_ret mid = none) && decide (mid < a_ms.length)
  else if kd = 7 then a_at p1 (.methodLinkNest (a_cname o) idx (a_name mid) RX7) && a_at p2 (.instanceMethod (a_name mid)) && a_at p3 (.initialized (a_name mid).cls) && decide ((a_name mid).name = "<init>") && decide (a_ret mid = none) && decide (mid < a_ms.length)
  else if kd = 3 then a_at p1 (.methodLink (a_cname o) idx Lib.objectInit)
  else if kd = 4 then a_at p1 (.methodLink (a_cname o) idx Lib.Math.max.name) && a_at p2 (.static Lib.Math.max.name) && a_at p3 (.initialized "java/lang/Math")
  else if kd = 5 then a_at p1 (.methodLink (a_cname o) idx Lib.Math.min.name) && a_at p2 (.static Lib.Math.min.name) && a_at p3 (.initialized "java/lang/Math")
  else if kd = 6 then a_at p1 (.methodLink (a_cname o) idx arraycopyName) && a_at p2 (.native arraycopyName) && a_at p3 (.static arraycopyName) && a_at p4 (.initialized "java/lang/System")
  else false
set_option maxRecDepth 100000 in
theorem a_cl_ok : a_cl.all a_cchk = true := by decide +kernel
def a_fchk (e : Nat × Nat × Nat × Nat × Nat) : Bool := match vwCl[e.2.2.1]? with
  | some q => a_at e.2.2.2.2 (.fieldLink (a_cname e.1) e.2.1 (q.2.1 e.2.2.2.1).1 (q.2.1 e.2.2.2.1).2.1 (q.2.1 e.2.2.2.1).2.2.1) && decide (e.2.2.2.1 < q.2.2)
  | none => false
set_option maxRecDepth 100000 in
theorem a_fl_ok : a_fl.all a_fchk = true := by decide +kernel
def a_tyc (k : Nat) (ty : FieldType) : Bool := match k, ty with
  | 0, .int => true
  | 1, .boolean => true
  | 2, .long => true
  | 3, .object _ => true
  | 3, .array _ => true
  | _, _ => false
/-- of a class of objects: its fields' words, sorts, which are final, who declares them -/
def a_kchk (ci : Nat) : Bool := match vwCl[ci]? with
  | some q => decide (q.2.2 = a_nf ci) && (List.range q.2.2).all (fun k => decide (u_lay q.1 q.2.1 k ∈ lw_tbl) && goodWord (u_lay q.1 q.2.1 k) && (match parseFieldDescriptor (q.2.1 k).2.2.1 with | some ty => a_tyc (a_fty ci k) ty | none => false) && decide ((q.2.1 k).2.2.2 = a_fin ci k) && decide ((q.2.1 k).1 = q.1) && (List.range q.2.2).all (fun j => decide (j = k ∨ (q.2.1 j).2.1 ≠ (q.2.1 k).2.1))) && decide (Cond.instantiable q.1 q.2.2 ∈ lw_tbl) && decide (Cond.initialized q.1 ∈ lw_tbl) && decide (q.1 = a_cname ci)
  | none => false
set_option maxRecDepth 100000 in
theorem a_k_ok : (List.range 8).all a_kchk = true := by decide +kernel
def a_nchk (e : Nat × Nat × Nat × Nat) : Bool := match vwCl[e.2.2.1]? with
  | some q => a_at e.2.2.2 (.classLink (a_cname e.1) e.2.1 q.1)
  | none => false
set_option maxRecDepth 100000 in
theorem a_nw_ok : a_nw.all a_nchk = true := by decide +kernel
set_option maxRecDepth 100000 in
theorem a_ci_ok : a_ci.all (fun e => a_at e.2.2.2 (.constant (a_cname e.1) e.2.1 e.2.2.1)) = true := by decide +kernel
set_option maxRecDepth 100000 in
theorem a_cj_ok : a_cj.all (fun e => a_at e.2.2.2 (.constantLong (a_cname e.1) e.2.1 e.2.2.1)) = true := by decide +kernel
set_option maxRecDepth 100000 in
theorem a_own_ok : (List.range a_ms.length).all (fun m => decide (a_cname (a_own m) = (a_name m).cls) && decide (a_ini m = true → (a_name m).name = "<init>")) = true := by decide +kernel
set_option maxRecDepth 100000 in
theorem a_few_v1 : Cond.fieldLink RJ0 9 RJ0 "value" "[B" ∈ lw_tbl := by decide +kernel
set_option maxRecDepth 100000 in
theorem a_few_v2 : Cond.fieldLink RJ0 15 RJ0 "coder" "B" ∈ lw_tbl := by decide +kernel
set_option maxRecDepth 100000 in
theorem a_few_s1 : Cond.fieldLink RJ0 38 RJ0 "COMPACT_STRINGS" "Z" ∈ lw_tbl := by decide +kernel
set_option maxRecDepth 100000 in
theorem a_few_s2 : Cond.fieldLink RX0 32 RX0 "ABOVE" "[I" ∈ lw_tbl := by decide +kernel
set_option maxRecDepth 100000 in
theorem a_few_s3 : Cond.fieldLink RJ0 1053 RJ3 "SIOOBE_FORMATTER" "Ljava/util/function/BiFunction;" ∈ lw_tbl := by decide +kernel
set_option maxRecDepth 100000 in
theorem a_few_oi : Cond.instanceMethod Lib.objectInit ∈ lw_tbl := by decide +kernel
set_option maxRecDepth 100000 in
theorem a_few_ai : Cond.arrayClass .int ∈ lw_tbl := by decide +kernel
set_option maxRecDepth 100000 in
theorem a_few_aj : Cond.arrayClass .long ∈ lw_tbl := by decide +kernel
set_option maxRecDepth 100000 in
theorem a_few_ac : Cond.arrayClass .char ∈ lw_tbl := by decide +kernel

