theorem ma_nil {big : List Cond} : ∀ w ∈ ([] : List Cond), w ∈ big := fun _ h => absurd h List.not_mem_nil
theorem ma_cons {big : List Cond} {a : Cond} {l : List Cond} (h : a ∈ big) (t : ∀ w ∈ l, w ∈ big) : ∀ w ∈ a :: l, w ∈ big := fun w hw => (List.mem_cons.mp hw).elim (fun e => e ▸ h) (t w)
theorem ma_app {big a b : List Cond} (ha : ∀ w ∈ a, w ∈ big) (hb : ∀ w ∈ b, w ∈ big) : ∀ w ∈ a ++ b, w ∈ big := fun w hw => (List.mem_append.mp hw).elim (ha w) (hb w)
theorem ma_pos {big : List Cond} (ws : List Cond) (ps : List Nat) (hp : ws = ps.filterMap (fun i => big[i]?)) : ∀ w ∈ ws, w ∈ big := by
  intro w hw
  rw [hp] at hw
  obtain ⟨i, -, hi⟩ := List.mem_filterMap.mp hw
  first | exact List.mem_of_getElem? hi | exact List.getElem?_mem hi
set_option maxRecDepth 20000 in
theorem inb_X0 : ∀ w ∈ wsX00, w ∈ lw_tbl := ma_pos _ [338, 340, 342, 344, 346] (by decide +kernel)
set_option maxRecDepth 20000 in
theorem inb_X1 : ∀ w ∈ wsX10, w ∈ lw_tbl := ma_pos _ [170, 172, 174, 176, 178, 180, 182, 184] (by decide +kernel)
set_option maxRecDepth 20000 in
theorem inb_X3 : ∀ w ∈ wsX30, w ∈ lw_tbl := ma_pos _ [124, 126, 128, 130, 132] (by decide +kernel)
set_option maxRecDepth 20000 in
theorem inb_X4 : ∀ w ∈ wsX40, w ∈ lw_tbl := ma_pos _ [286, 288, 290, 292, 294, 296, 298] (by decide +kernel)
set_option maxRecDepth 20000 in
theorem inb_X5 : ∀ w ∈ wsX50, w ∈ lw_tbl := ma_pos _ [240, 242] (by decide +kernel)
set_option maxRecDepth 20000 in
theorem inb_X6 : ∀ w ∈ wsX60, w ∈ lw_tbl := ma_pos _ [196, 198, 200, 202] (by decide +kernel)
set_option maxRecDepth 20000 in
theorem inb_X7 : ∀ w ∈ wsX70, w ∈ lw_tbl := ma_pos _ [98, 100] (by decide +kernel)
set_option maxRecDepth 20000 in
theorem inb_X8 : ∀ w ∈ wsX80, w ∈ lw_tbl := ma_pos _ [315, 317, 319, 321, 323] (by decide +kernel)
set_option maxRecDepth 20000 in
theorem inb_X9 : ∀ w ∈ wsX90, w ∈ lw_tbl := ma_pos _ [221, 223, 225, 227, 229] (by decide +kernel)
set_option maxRecDepth 20000 in
theorem inb_X10 : ∀ w ∈ wsX100, w ∈ lw_tbl := ma_pos _ [258, 260, 262, 264, 266] (by decide +kernel)
set_option maxRecDepth 20000 in
theorem inb_X11 : ∀ w ∈ wsX110, w ∈ lw_tbl := ma_pos _ [397, 399, 401, 403, 405, 407, 409, 411, 413, 415, 417, 419, 421] (by decide +kernel)
set_option maxRecDepth 20000 in
theorem inb_X12 : ∀ w ∈ wsX120, w ∈ lw_tbl := ma_pos _ [1026, 1028, 1030, 1032, 1034, 1036, 1038, 1040, 1042, 1044, 1046, 1048, 1050, 1052, 1054, 1056, 1058, 1060, 1062, 1064, 1066, 1068, 1070, 1072, 1074, 1076, 1078, 1080, 1082, 1084, 1086, 1088, 1090, 1092, 1094, 1096, 1098, 1100, 1102, 1104, 1106, 1108, 1110, 1112, 1114, 1116, 1118, 1120, 1122, 1124] (by decide +kernel)
set_option maxRecDepth 20000 in
theorem inc_X7_init : Cond.code yX7_init cX7_init 1 none ∈ lw_tbl := List.mem_of_getElem? (i := 92) rfl
set_option maxRecDepth 20000 in
theorem inc_X3_init : Cond.code yX3_init cX3_init 2 none ∈ lw_tbl := List.mem_of_getElem? (i := 114) rfl
set_option maxRecDepth 20000 in
theorem inc_X1_init : Cond.code yX1_init cX1_init 1 none ∈ lw_tbl := List.mem_of_getElem? (i := 139) rfl
set_option maxRecDepth 20000 in
theorem inc_X6_init : Cond.code yX6_init cX6_init 2 none ∈ lw_tbl := List.mem_of_getElem? (i := 108) rfl
set_option maxRecDepth 20000 in
theorem inc_X9_init : Cond.code yX9_init cX9_init 2 none ∈ lw_tbl := List.mem_of_getElem? (i := 211) rfl
set_option maxRecDepth 20000 in
theorem inc_X5_init : Cond.code yX5_init cX5_init 3 none ∈ lw_tbl := List.mem_of_getElem? (i := 236) rfl
set_option maxRecDepth 20000 in
theorem inc_X10_init : Cond.code yX10_init cX10_init 2 none ∈ lw_tbl := List.mem_of_getElem? (i := 249) rfl
set_option maxRecDepth 20000 in
theorem inc_X4_init : Cond.code yX4_init cX4_init 2 none ∈ lw_tbl := List.mem_of_getElem? (i := 273) rfl
set_option maxRecDepth 20000 in
theorem inc_X8_init : Cond.code yX8_init cX8_init 1 none ∈ lw_tbl := List.mem_of_getElem? (i := 305) rfl
set_option maxRecDepth 20000 in
theorem inc_X0_init : Cond.code yX0_init cX0_init 2 none ∈ lw_tbl := List.mem_of_getElem? (i := 330) rfl
set_option maxRecDepth 20000 in
theorem inc_X9_keepOrder : Cond.code yX9_keepOrder cX9_keepOrder 1 none ∈ lw_tbl := List.mem_of_getElem? (i := 360) rfl
set_option maxRecDepth 20000 in
theorem inc_X9_takeAll : Cond.code yX9_takeAll cX9_takeAll 2 none ∈ lw_tbl := List.mem_of_getElem? (i := 356) rfl
set_option maxRecDepth 20000 in
theorem inc_X9_lineOf : Cond.code yX9_lineOf cX9_lineOf 2 (some .int) ∈ lw_tbl := List.mem_of_getElem? (i := 375) rfl
set_option maxRecDepth 20000 in
theorem inc_X9_lineAfterChange : Cond.code yX9_lineAfterChange cX9_lineAfterChange 4 (some .int) ∈ lw_tbl := List.mem_of_getElem? (i := 371) rfl
set_option maxRecDepth 20000 in
theorem inc_X4_forgetPlace : Cond.code yX4_forgetPlace cX4_forgetPlace 1 none ∈ lw_tbl := List.mem_of_getElem? (i := 383) rfl
set_option maxRecDepth 20000 in
theorem inc_X11_settleInView : Cond.code yX11_settleInView cX11_settleInView 1 (some .int) ∈ lw_tbl := List.mem_of_getElem? (i := 367) rfl
set_option maxRecDepth 20000 in
theorem inc_X11_startAnew : Cond.code yX11_startAnew cX11_startAnew 2 none ∈ lw_tbl := List.mem_of_getElem? (i := 352) rfl
set_option maxRecDepth 20000 in
theorem inc_X11_init : Cond.code yX11_init cX11_init 1 none ∈ lw_tbl := List.mem_of_getElem? (i := 84) rfl
set_option maxRecDepth 20000 in
theorem inc_X12_init : Cond.code yX12_init cX12_init 2 none ∈ lw_tbl := List.mem_of_getElem? (i := 974) rfl
set_option maxRecDepth 20000 in
theorem inc_X7_append : Cond.code yX7_append cX7_append 3 none ∈ lw_tbl := List.mem_of_getElem? (i := 431) rfl
set_option maxRecDepth 20000 in
theorem inc_X11_feed : Cond.code yX11_feed cX11_feed 6 (some .int) ∈ lw_tbl := List.mem_of_getElem? (i := 427) rfl
set_option maxRecDepth 20000 in
theorem inc_X12_feed : Cond.code yX12_feed cX12_feed 8 (some .int) ∈ lw_tbl := List.mem_of_getElem? (i := 1279) rfl
set_option maxRecDepth 20000 in
theorem inc_X11_end : Cond.code yX11_end cX11_end 2 (some .int) ∈ lw_tbl := List.mem_of_getElem? (i := 435) rfl
set_option maxRecDepth 20000 in
theorem inc_X12_end : Cond.code yX12_end cX12_end 2 (some .int) ∈ lw_tbl := List.mem_of_getElem? (i := 1283) rfl
set_option maxRecDepth 20000 in
theorem inc_X7_byteAt : Cond.code yX7_byteAt cX7_byteAt 2 (some .int) ∈ lw_tbl := List.mem_of_getElem? (i := 455) rfl
set_option maxRecDepth 20000 in
theorem inc_X3_isLetter : Cond.code yX3_isLetter cX3_isLetter 1 (some .boolean) ∈ lw_tbl := List.mem_of_getElem? (i := 461) rfl
set_option maxRecDepth 20000 in
theorem inc_X3_isDigit : Cond.code yX3_isDigit cX3_isDigit 1 (some .boolean) ∈ lw_tbl := List.mem_of_getElem? (i := 478) rfl
set_option maxRecDepth 20000 in
theorem inc_X3_kindOfSign : Cond.code yX3_kindOfSign cX3_kindOfSign 1 (some .int) ∈ lw_tbl := List.mem_of_getElem? (i := 486) rfl
set_option maxRecDepth 20000 in
theorem inc_X3_advance : Cond.code yX3_advance cX3_advance 2 none ∈ lw_tbl := List.mem_of_getElem? (i := 451) rfl
set_option maxRecDepth 20000 in
theorem inc_X3_restart : Cond.code yX3_restart cX3_restart 1 none ∈ lw_tbl := List.mem_of_getElem? (i := 447) rfl
set_option maxRecDepth 20000 in
theorem inc_X6_readTape : Cond.code yX6_readTape cX6_readTape 2 (some .boolean) ∈ lw_tbl := List.mem_of_getElem? (i := 443) rfl
set_option maxRecDepth 20000 in
theorem inc_X1_copy : Cond.code yX1_copy cX1_copy 3 none ∈ lw_tbl := List.mem_of_getElem? (i := 536) rfl
set_option maxRecDepth 20000 in
theorem inc_X11_table : Cond.code yX11_table cX11_table 1 (some .int) ∈ lw_tbl := List.mem_of_getElem? (i := 439) rfl
set_option maxRecDepth 20000 in
theorem inc_X12_sign : Cond.code yX12_sign cX12_sign 2 (some .int) ∈ lw_tbl := List.mem_of_getElem? (i := 857) rfl
set_option maxRecDepth 20000 in
theorem inc_X12_next : Cond.code yX12_next cX12_next 3 none ∈ lw_tbl := List.mem_of_getElem? (i := 853) rfl
set_option maxRecDepth 20000 in
theorem inc_X12_isGood : Cond.code yX12_isGood cX12_isGood 1 (some .boolean) ∈ lw_tbl := List.mem_of_getElem? (i := 874) rfl
set_option maxRecDepth 20000 in
theorem inc_X12_table : Cond.code yX12_table cX12_table 2 (some .int) ∈ lw_tbl := List.mem_of_getElem? (i := 848) rfl
set_option maxRecDepth 20000 in
theorem inc_X11_fault : Cond.code yX11_fault cX11_fault 2 (some .int) ∈ lw_tbl := List.mem_of_getElem? (i := 541) rfl
set_option maxRecDepth 20000 in
theorem inc_X12_fault : Cond.code yX12_fault cX12_fault 2 (some .int) ∈ lw_tbl := List.mem_of_getElem? (i := 901) rfl
set_option maxRecDepth 20000 in
theorem inc_X1_spotOf : Cond.code yX1_spotOf cX1_spotOf 5 (some .int) ∈ lw_tbl := List.mem_of_getElem? (i := 549) rfl
set_option maxRecDepth 20000 in
theorem inc_X11_cell : Cond.code yX11_cell cX11_cell 5 (some .int) ∈ lw_tbl := List.mem_of_getElem? (i := 545) rfl
set_option maxRecDepth 20000 in
theorem inc_X12_isColumn : Cond.code yX12_isColumn cX12_isColumn 2 (some .boolean) ∈ lw_tbl := List.mem_of_getElem? (i := 913) rfl
set_option maxRecDepth 20000 in
theorem inc_X12_isCell : Cond.code yX12_isCell cX12_isCell 3 (some .boolean) ∈ lw_tbl := List.mem_of_getElem? (i := 909) rfl
set_option maxRecDepth 20000 in
theorem inc_X12_cell : Cond.code yX12_cell cX12_cell 5 (some .int) ∈ lw_tbl := List.mem_of_getElem? (i := 905) rfl
set_option maxRecDepth 20000 in
theorem inc_X1_isNumber : Cond.code yX1_isNumber cX1_isNumber 2 (some .boolean) ∈ lw_tbl := List.mem_of_getElem? (i := 569) rfl
set_option maxRecDepth 20000 in
theorem inc_X11_number : Cond.code yX11_number cX11_number 4 (some .int) ∈ lw_tbl := List.mem_of_getElem? (i := 565) rfl
set_option maxRecDepth 20000 in
theorem inc_X12_number : Cond.code yX12_number cX12_number 3 (some .int) ∈ lw_tbl := List.mem_of_getElem? (i := 934) rfl
set_option maxRecDepth 20000 in
theorem inc_X11_letter : Cond.code yX11_letter cX11_letter 5 (some .int) ∈ lw_tbl := List.mem_of_getElem? (i := 573) rfl
set_option maxRecDepth 20000 in
theorem inc_X12_letter : Cond.code yX12_letter cX12_letter 6 (some .int) ∈ lw_tbl := List.mem_of_getElem? (i := 938) rfl
set_option maxRecDepth 20000 in
theorem inc_X1_hasColumn : Cond.code yX1_hasColumn cX1_hasColumn 2 (some .boolean) ∈ lw_tbl := List.mem_of_getElem? (i := 584) rfl
set_option maxRecDepth 20000 in
theorem inc_X11_cut : Cond.code yX11_cut cX11_cut 4 (some .int) ∈ lw_tbl := List.mem_of_getElem? (i := 580) rfl
set_option maxRecDepth 20000 in
theorem inc_X12_cut : Cond.code yX12_cut cX12_cut 8 (some .int) ∈ lw_tbl := List.mem_of_getElem? (i := 942) rfl
set_option maxRecDepth 20000 in
theorem inc_X11_sort : Cond.code yX11_sort cX11_sort 3 (some .int) ∈ lw_tbl := List.mem_of_getElem? (i := 601) rfl
set_option maxRecDepth 20000 in
theorem inc_X12_sort : Cond.code yX12_sort cX12_sort 6 (some .int) ∈ lw_tbl := List.mem_of_getElem? (i := 954) rfl
set_option maxRecDepth 20000 in
theorem inc_X11_whole : Cond.code yX11_whole cX11_whole 1 (some .int) ∈ lw_tbl := List.mem_of_getElem? (i := 623) rfl
set_option maxRecDepth 20000 in
theorem inc_X12_inView : Cond.code yX12_inView cX12_inView 3 (some .int) ∈ lw_tbl := List.mem_of_getElem? (i := 950) rfl
set_option maxRecDepth 20000 in
theorem inc_X12_show : Cond.code yX12_show cX12_show 6 (some .int) ∈ lw_tbl := List.mem_of_getElem? (i := 946) rfl
set_option maxRecDepth 20000 in
theorem inc_X12_whole : Cond.code yX12_whole cX12_whole 2 (some .int) ∈ lw_tbl := List.mem_of_getElem? (i := 962) rfl
set_option maxRecDepth 20000 in
theorem inc_X11_lineAt : Cond.code yX11_lineAt cX11_lineAt 2 (some .int) ∈ lw_tbl := List.mem_of_getElem? (i := 627) rfl
set_option maxRecDepth 20000 in
theorem inc_X12_lineAt : Cond.code yX12_lineAt cX12_lineAt 2 (some .int) ∈ lw_tbl := List.mem_of_getElem? (i := 966) rfl
set_option maxRecDepth 20000 in
theorem inc_X11_place : Cond.code yX11_place cX11_place 2 (some .int) ∈ lw_tbl := List.mem_of_getElem? (i := 632) rfl
set_option maxRecDepth 20000 in
theorem inc_X12_place : Cond.code yX12_place cX12_place 2 (some .int) ∈ lw_tbl := List.mem_of_getElem? (i := 970) rfl
set_option maxRecDepth 20000 in
theorem inc_X9_positionOf : Cond.code yX9_positionOf cX9_positionOf 3 (some .int) ∈ lw_tbl := List.mem_of_getElem? (i := 379) rfl
set_option maxRecDepth 20000 in
theorem inc_X5_stepAt : Cond.code yX5_stepAt cX5_stepAt 4 (some .int) ∈ lw_tbl := List.mem_of_getElem? (i := 645) rfl
set_option maxRecDepth 20000 in
theorem inc_X5_stepOf : Cond.code yX5_stepOf cX5_stepOf 3 (some .int) ∈ lw_tbl := List.mem_of_getElem? (i := 640) rfl
set_option maxRecDepth 20000 in
theorem inc_X4_add : Cond.code yX4_add cX4_add 4 none ∈ lw_tbl := List.mem_of_getElem? (i := 689) rfl
set_option maxRecDepth 20000 in
theorem inc_X4_tellEdge : Cond.code yX4_tellEdge cX4_tellEdge 1 (some .int) ∈ lw_tbl := List.mem_of_getElem? (i := 685) rfl
set_option maxRecDepth 20000 in
theorem inc_X11_key : Cond.code yX11_key cX11_key 4 (some .int) ∈ lw_tbl := List.mem_of_getElem? (i := 636) rfl
set_option maxRecDepth 20000 in
theorem inc_X12_tell : Cond.code yX12_tell cX12_tell 4 none ∈ lw_tbl := List.mem_of_getElem? (i := 1165) rfl
set_option maxRecDepth 20000 in
theorem inc_X12_edge : Cond.code yX12_edge cX12_edge 1 (some .int) ∈ lw_tbl := List.mem_of_getElem? (i := 1161) rfl
set_option maxRecDepth 20000 in
theorem inc_X12_key : Cond.code yX12_key cX12_key 3 (some .int) ∈ lw_tbl := List.mem_of_getElem? (i := 1131) rfl
set_option maxRecDepth 20000 in
theorem inc_X8_takeLatest : Cond.code yX8_takeLatest cX8_takeLatest 1 (some .boolean) ∈ lw_tbl := List.mem_of_getElem? (i := 715) rfl
set_option maxRecDepth 20000 in
theorem inc_X11_back : Cond.code yX11_back cX11_back 1 (some .int) ∈ lw_tbl := List.mem_of_getElem? (i := 711) rfl
set_option maxRecDepth 20000 in
theorem inc_X12_back : Cond.code yX12_back cX12_back 1 (some .int) ∈ lw_tbl := List.mem_of_getElem? (i := 1181) rfl
set_option maxRecDepth 20000 in
theorem inc_X11_told : Cond.code yX11_told cX11_told 3 (some .int) ∈ lw_tbl := List.mem_of_getElem? (i := 719) rfl
set_option maxRecDepth 20000 in
theorem inc_X12_told : Cond.code yX12_told cX12_told 3 (some .int) ∈ lw_tbl := List.mem_of_getElem? (i := 1185) rfl
set_option maxRecDepth 20000 in
theorem inc_X11_mark : Cond.code yX11_mark cX11_mark 2 (some .boolean) ∈ lw_tbl := List.mem_of_getElem? (i := 723) rfl
set_option maxRecDepth 20000 in
theorem inc_X12_isMark : Cond.code yX12_isMark cX12_isMark 1 (some .boolean) ∈ lw_tbl := List.mem_of_getElem? (i := 1192) rfl
set_option maxRecDepth 20000 in
theorem inc_X12_mark : Cond.code yX12_mark cX12_mark 2 (some .boolean) ∈ lw_tbl := List.mem_of_getElem? (i := 1189) rfl
set_option maxRecDepth 20000 in
theorem inc_X11_go : Cond.code yX11_go cX11_go 2 (some .int) ∈ lw_tbl := List.mem_of_getElem? (i := 727) rfl
set_option maxRecDepth 20000 in
theorem inc_X12_go : Cond.code yX12_go cX12_go 2 (some .int) ∈ lw_tbl := List.mem_of_getElem? (i := 1196) rfl
set_option maxRecDepth 20000 in
theorem inc_X11_searchWaysTo : Cond.code yX11_searchWaysTo cX11_searchWaysTo 5 (some .int) ∈ lw_tbl := List.mem_of_getElem? (i := 736) rfl
set_option maxRecDepth 20000 in
theorem inc_X11_keys : Cond.code yX11_keys cX11_keys 4 (some .int) ∈ lw_tbl := List.mem_of_getElem? (i := 732) rfl
set_option maxRecDepth 20000 in
theorem inc_X12_keys : Cond.code yX12_keys cX12_keys 3 (some .int) ∈ lw_tbl := List.mem_of_getElem? (i := 1200) rfl
set_option maxRecDepth 20000 in
theorem inc_X11_first : Cond.code yX11_first cX11_first 4 (some .int) ∈ lw_tbl := List.mem_of_getElem? (i := 749) rfl
set_option maxRecDepth 20000 in
theorem inc_X12_first : Cond.code yX12_first cX12_first 6 (some .int) ∈ lw_tbl := List.mem_of_getElem? (i := 1208) rfl
set_option maxRecDepth 20000 in
theorem inc_X1_lineSpotOf : Cond.code yX1_lineSpotOf cX1_lineSpotOf 3 (some .int) ∈ lw_tbl := List.mem_of_getElem? (i := 655) rfl
set_option maxRecDepth 20000 in
theorem inc_X11_changeCell : Cond.code yX11_changeCell cX11_changeCell 6 (some .int) ∈ lw_tbl := List.mem_of_getElem? (i := 759) rfl
set_option maxRecDepth 20000 in
theorem inc_X11_set : Cond.code yX11_set cX11_set 4 (some .int) ∈ lw_tbl := List.mem_of_getElem? (i := 753) rfl
set_option maxRecDepth 20000 in
theorem inc_X12_isLine : Cond.code yX12_isLine cX12_isLine 2 (some .boolean) ∈ lw_tbl := List.mem_of_getElem? (i := 921) rfl
set_option maxRecDepth 20000 in
theorem inc_X12_change : Cond.code yX12_change cX12_change 6 (some .int) ∈ lw_tbl := List.mem_of_getElem? (i := 1219) rfl
set_option maxRecDepth 20000 in
theorem inc_X12_set : Cond.code yX12_set cX12_set 4 (some .int) ∈ lw_tbl := List.mem_of_getElem? (i := 1213) rfl
set_option maxRecDepth 20000 in
theorem inc_X11_clear : Cond.code yX11_clear cX11_clear 3 (some .int) ∈ lw_tbl := List.mem_of_getElem? (i := 776) rfl
set_option maxRecDepth 20000 in
theorem inc_X12_clear : Cond.code yX12_clear cX12_clear 3 (some .int) ∈ lw_tbl := List.mem_of_getElem? (i := 1227) rfl
set_option maxRecDepth 20000 in
theorem inc_X0_takeBackLatest : Cond.code yX0_takeBackLatest cX0_takeBackLatest 2 (some .int) ∈ lw_tbl := List.mem_of_getElem? (i := 784) rfl
set_option maxRecDepth 20000 in
theorem inc_X11_undo : Cond.code yX11_undo cX11_undo 2 (some .boolean) ∈ lw_tbl := List.mem_of_getElem? (i := 780) rfl
set_option maxRecDepth 20000 in
theorem inc_X12_undo : Cond.code yX12_undo cX12_undo 2 (some .boolean) ∈ lw_tbl := List.mem_of_getElem? (i := 1231) rfl
set_option maxRecDepth 20000 in
theorem inc_X11_quarrels : Cond.code yX11_quarrels cX11_quarrels 4 (some .int) ∈ lw_tbl := List.mem_of_getElem? (i := 788) rfl
set_option maxRecDepth 20000 in
theorem inc_X12_seekQuarrels : Cond.code yX12_seekQuarrels cX12_seekQuarrels 5 none ∈ lw_tbl := List.mem_of_getElem? (i := 1239) rfl
set_option maxRecDepth 20000 in
theorem inc_X12_quarrels : Cond.code yX12_quarrels cX12_quarrels 1 (some .int) ∈ lw_tbl := List.mem_of_getElem? (i := 1235) rfl
set_option maxRecDepth 20000 in
theorem inc_X1_quarrelSpot : Cond.code yX1_quarrelSpot cX1_quarrelSpot 5 (some .int) ∈ lw_tbl := List.mem_of_getElem? (i := 810) rfl
set_option maxRecDepth 20000 in
theorem inc_X11_quarrel : Cond.code yX11_quarrel cX11_quarrel 3 (some .int) ∈ lw_tbl := List.mem_of_getElem? (i := 806) rfl
set_option maxRecDepth 20000 in
theorem inc_X12_quarrel : Cond.code yX12_quarrel cX12_quarrel 2 (some .int) ∈ lw_tbl := List.mem_of_getElem? (i := 1247) rfl
set_option maxRecDepth 20000 in
theorem inc_X11_right : Cond.code yX11_right cX11_right 3 (some .long) ∈ lw_tbl := List.mem_of_getElem? (i := 815) rfl
set_option maxRecDepth 20000 in
theorem inc_X12_right : Cond.code yX12_right cX12_right 2 (some .long) ∈ lw_tbl := List.mem_of_getElem? (i := 1251) rfl
set_option maxRecDepth 20000 in
theorem inc_X11_greatest : Cond.code yX11_greatest cX11_greatest 2 (some .int) ∈ lw_tbl := List.mem_of_getElem? (i := 820) rfl
set_option maxRecDepth 20000 in
theorem inc_X12_greatest : Cond.code yX12_greatest cX12_greatest 4 (some .int) ∈ lw_tbl := List.mem_of_getElem? (i := 1255) rfl
set_option maxRecDepth 20000 in
theorem inc_X11_compare : Cond.code yX11_compare cX11_compare 4 (some .int) ∈ lw_tbl := List.mem_of_getElem? (i := 828) rfl
set_option maxRecDepth 20000 in
theorem inc_X12_compare : Cond.code yX12_compare cX12_compare 8 (some .int) ∈ lw_tbl := List.mem_of_getElem? (i := 1267) rfl
set_option maxRecDepth 20000 in
theorem inc_X11_shape : Cond.code yX11_shape cX11_shape 2 (some .int) ∈ lw_tbl := List.mem_of_getElem? (i := 836) rfl
set_option maxRecDepth 20000 in
theorem inc_X12_shape : Cond.code yX12_shape cX12_shape 10 (some .int) ∈ lw_tbl := List.mem_of_getElem? (i := 1271) rfl
set_option maxRecDepth 20000 in
theorem inc_X11_about : Cond.code yX11_about cX11_about 2 (some .int) ∈ lw_tbl := List.mem_of_getElem? (i := 844) rfl
set_option maxRecDepth 20000 in
theorem inc_X12_about : Cond.code yX12_about cX12_about 2 (some .int) ∈ lw_tbl := List.mem_of_getElem? (i := 1275) rfl
