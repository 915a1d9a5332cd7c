def WB : List Cond := [.classLink RL 7 RX10, .instantiable RX10 11, .initialized RX10, .methodLink RX10 1 Lib.objectInit, .instanceMethod Lib.objectInit, .code Lib.objectInit ⟨#[0xb1]⟩ 1 none, .classLink RX10 7 RX7, .instantiable RX7 5, .initialized RX7, .methodLink RX7 3 Lib.objectInit, .fieldLink RX7 9 "ArrayHouse$State" "origin" "I", .fieldLink RX7 15 "ArrayHouse$State" "link" "I", .code yX7_init cX7_init 1 none, .instanceMethod yX7_init, .fieldLink RX10 10 "ArrayHouse" "state" "LArrayHouse$State;", .classLink RX10 16 RX1, .instantiable RX1 9, .initialized RX1, .methodLink RX1 3 Lib.objectInit, .arrayClass .int, .fieldLink RX1 9 "ArrayHouse$Heap" "shape" "[I", .fieldLink RX1 15 "ArrayHouse$Heap" "words" "[I", .fieldLink RX1 18 "ArrayHouse$Heap" "spare" "[I", .fieldLink RX1 21 "ArrayHouse$Heap" "top" "I", .fieldLink RX1 25 "ArrayHouse$Heap" "base" "I", .fieldLink RX1 28 "ArrayHouse$Heap" "fillD" "I", .fieldLink RX1 31 "ArrayHouse$Heap" "state" "LArrayHouse$State;", .code yX1_init cX1_init 2 none, .instanceMethod yX1_init, .fieldLink RX10 21 "ArrayHouse" "heap" "LArrayHouse$Heap;", .classLink RX10 25 RX8, .instantiable RX8 8, .initialized RX8, .methodLink RX8 3 Lib.objectInit, .arrayClass .byte, .fieldLink RX8 9 "ArrayHouse$Text" "kept" "[B", .fieldLink RX8 15 "ArrayHouse$Text" "bytes" "[B", .fieldLink RX8 18 "ArrayHouse$Text" "tokens" "[I", .fieldLink RX8 22 "ArrayHouse$Text" "lastMade" "I", .code yX8_init cX8_init 1 none, .instanceMethod yX8_init, .fieldLink RX10 28 "ArrayHouse" "text" "LArrayHouse$Text;", .classLink RX10 32 RX3, .instantiable RX3 16, .initialized RX3, .methodLink RX3 3 Lib.objectInit, .fieldLink RX3 11 "ArrayHouse$Places" "nameA" "[I", .fieldLink RX3 15 "ArrayHouse$Places" "nameB" "[I", .fieldLink RX3 18 "ArrayHouse$Places" "means" "[I", .fieldLink RX3 21 "ArrayHouse$Places" "from" "[I", .fieldLink RX3 24 "ArrayHouse$Places" "to" "[I", .fieldLink RX3 27 "ArrayHouse$Places" "used" "[I", .fieldLink RX3 30 "ArrayHouse$Places" "around" "[I", .fieldLink RX3 33 "ArrayHouse$Places" "left" "[I", .fieldLink RX3 36 "ArrayHouse$Places" "right" "[I", .fieldLink RX3 39 "ArrayHouse$Places" "self" "[I", .fieldLink RX3 42 "ArrayHouse$Places" "guards" "[I", .fieldLink RX3 45 "ArrayHouse$Places" "state" "LArrayHouse$State;", .fieldLink RX3 49 "ArrayHouse$Places" "heap" "LArrayHouse$Heap;", .fieldLink RX3 53 "ArrayHouse$Places" "text" "LArrayHouse$Text;", .code yX3_init cX3_init 4 none, .instanceMethod yX3_init, .fieldLink RX10 37 "ArrayHouse" "places" "LArrayHouse$Places;", .classLink RX10 41 RX9, .instantiable RX9 4, .initialized RX9, .methodLink RX9 3 Lib.objectInit, .fieldLink RX9 9 "ArrayHouse$Writer" "heap" "LArrayHouse$Heap;", .methodLink RX9 15 Lib.Math.max.name, .static Lib.Math.max.name, .initialized "java/lang/Math", .code Lib.Math.max.name Lib.Math.max.code 2 (some .int), .fieldLink RX9 21 "ArrayHouse$Writer" "row" "[B", .code yX9_init cX9_init 3 none, .instanceMethod yX9_init, .fieldLink RX10 46 "ArrayHouse" "screen" "LArrayHouse$Writer;", .fieldLink RX10 50 "ArrayHouse" "tape" "[B", .fieldLink RX10 54 "ArrayHouse" "path" "[I", .fieldLink RX10 58 "ArrayHouse" "eventAt" "I", .classLink RX10 62 RX6, .instantiable RX6 5, .initialized RX6, .methodLink RX6 3 Lib.objectInit, .fieldLink RX6 9 "ArrayHouse$Shapes" "rows" "[I", .fieldLink RX6 15 "ArrayHouse$Shapes" "turn" "[I", .fieldLink RX6 18 "ArrayHouse$Shapes" "place" "[I", .fieldLink RX6 21 "ArrayHouse$Shapes" "state" "LArrayHouse$State;", .fieldLink RX6 25 "ArrayHouse$Shapes" "heap" "LArrayHouse$Heap;", .code yX6_init cX6_init 3 none, .instanceMethod yX6_init, .classLink RX10 67 RX2, .instantiable RX2 5, .initialized RX2, .methodLink RX2 3 Lib.objectInit, .fieldLink RX2 9 "ArrayHouse$Operators" "state" "LArrayHouse$State;", .fieldLink RX2 15 "ArrayHouse$Operators" "heap" "LArrayHouse$Heap;", .fieldLink RX2 19 "ArrayHouse$Operators" "places" "LArrayHouse$Places;", .fieldLink RX2 23 "ArrayHouse$Operators" "shapes" "LArrayHouse$Shapes;", .code yX2_init cX2_init 5 none, .instanceMethod yX2_init, .classLink RX10 72 RX4, .instantiable RX4 13, .initialized RX4, .methodLink RX4 3 Lib.objectInit, .fieldLink RX4 9 "ArrayHouse$Reader" "rows" "[I", .fieldLink RX4 15 "ArrayHouse$Reader" "state" "LArrayHouse$State;", .fieldLink RX4 19 "ArrayHouse$Reader" "heap" "LArrayHouse$Heap;", .fieldLink RX4 23 "ArrayHouse$Reader" "text" "LArrayHouse$Text;", .fieldLink RX4 27 "ArrayHouse$Reader" "places" "LArrayHouse$Places;", .fieldLink RX4 31 "ArrayHouse$Reader" "shapes" "LArrayHouse$Shapes;", .fieldLink RX4 35 "ArrayHouse$Reader" "operators" "LArrayHouse$Operators;", .classLink RX4 39 RX5, .instantiable RX5 4, .initialized RX5, .methodLink RX5 3 Lib.objectInit, .fieldLink RX5 9 "ArrayHouse$Scalars" "state" "LArrayHouse$State;", .fieldLink RX5 15 "ArrayHouse$Scalars" "heap" "LArrayHouse$Heap;", .code yX5_init cX5_init 3 none, .instanceMethod yX5_init, .fieldLink RX4 44 "ArrayHouse$Reader" "scalars" "LArrayHouse$Scalars;", .classLink RX4 48 RX0, .instantiable RX0 6, .initialized RX0, .methodLink RX0 3 Lib.objectInit, .fieldLink RX0 9 "ArrayHouse$Finds" "rows" "[I", .fieldLink RX0 15 "ArrayHouse$Finds" "other" "[I", .fieldLink RX0 18 "ArrayHouse$Finds" "state" "LArrayHouse$State;", .fieldLink RX0 22 "ArrayHouse$Finds" "heap" "LArrayHouse$Heap;", .fieldLink RX0 26 "ArrayHouse$Finds" "scalars" "LArrayHouse$Scalars;", .classLink RX0 30 RX9, .fieldLink RX0 35 "ArrayHouse$Finds" "writer" "LArrayHouse$Writer;", .code yX0_init cX0_init 4 none, .instanceMethod yX0_init, .fieldLink RX4 53 "ArrayHouse$Reader" "finds" "LArrayHouse$Finds;", .code yX4_init cX4_init 7 none, .instanceMethod yX4_init, .fieldLink RX10 77 "ArrayHouse" "reader" "LArrayHouse$Reader;", .code yX10_init cX10_init 3 none, .methodLink RL 9 yX10_init, .instanceMethod yX10_init, .classLink RL 10 RX11, .instantiable RX11 76, .initialized RX11, .methodLink RX11 900 Lib.objectInit, .fieldLink RX11 177 "ArrayHouseModel" "origin" "I", .fieldLink RX11 151 "ArrayHouseModel" "link" "J", .constant RX11 906 2200000, .fieldLink RX11 11 "ArrayHouseModel" "mem" "[I", .constant RX11 907 1000000, .fieldLink RX11 908 "ArrayHouseModel" "kept" "[I", .fieldLink RX11 35 "ArrayHouseModel" "top" "I", .fieldLink RX11 52 "ArrayHouseModel" "shape" "[I", .fieldLink RX11 22 "ArrayHouseModel" "itemD" "I", .fieldLink RX11 286 "ArrayHouseModel" "spots" "[I", .fieldLink RX11 304 "ArrayHouseModel" "spotsToo" "[I", .fieldLink RX11 96 "ArrayHouseModel" "fills" "[I", .fieldLink RX11 333 "ArrayHouseModel" "said" "[B", .fieldLink RX11 340 "ArrayHouseModel" "spoken" "[B", .constant RX11 911 130000, .fieldLink RX11 530 "ArrayHouseModel" "wait" "[I", .constant RX11 912 60000, .fieldLink RX11 556 "ArrayHouseModel" "bytes" "[B", .fieldLink RX11 559 "ArrayHouseModel" "kind" "[I", .fieldLink RX11 565 "ArrayHouseModel" "low" "[I", .fieldLink RX11 568 "ArrayHouseModel" "high" "[I", .fieldLink RX11 571 "ArrayHouseModel" "from" "[I", .fieldLink RX11 574 "ArrayHouseModel" "to" "[I", .fieldLink RX11 580 "ArrayHouseModel" "partner" "[I", .fieldLink RX11 583 "ArrayHouseModel" "literal" "[I", .fieldLink RX11 653 "ArrayHouseModel" "meant" "[I", .fieldLink RX11 656 "ArrayHouseModel" "nameLow" "[I", .fieldLink RX11 659 "ArrayHouseModel" "nameHigh" "[I", .fieldLink RX11 683 "ArrayHouseModel" "meaning" "[I", .fieldLink RX11 689 "ArrayHouseModel" "funcFrom" "[I", .fieldLink RX11 692 "ArrayHouseModel" "funcTo" "[I", .fieldLink RX11 668 "ArrayHouseModel" "textFrom" "[I", .fieldLink RX11 671 "ArrayHouseModel" "textMany" "[I", .fieldLink RX11 677 "ArrayHouseModel" "texts" "[B", .fieldLink RX11 665 "ArrayHouseModel" "frameAround" "[I", .fieldLink RX11 774 "ArrayHouseModel" "frameLeft" "[I", .fieldLink RX11 777 "ArrayHouseModel" "frameRight" "[I", .fieldLink RX11 837 "ArrayHouseModel" "frameSelf" "[I", .fieldLink RX11 786 "ArrayHouseModel" "chosenAt" "I", .fieldLink RX11 795 "ArrayHouseModel" "chosenName" "[I", .fieldLink RX11 801 "ArrayHouseModel" "chosenOwn" "[I", .fieldLink RX11 891 "ArrayHouseModel" "guardMask" "[I", .fieldLink RX11 885 "ArrayHouseModel" "guardFrom" "[I", .fieldLink RX11 888 "ArrayHouseModel" "guardTo" "[I", .fieldLink RX11 913 "ArrayHouseModel" "tape" "[B", .fieldLink RX11 916 "ArrayHouseModel" "atStatement" "I", .fieldLink RX11 919 "ArrayHouseModel" "view" "[I", .code yX11_init cX11_init 1 none, .methodLink RL 12 yX11_init, .instanceMethod yX11_init, .fieldLink RX10 82 "ArrayHouse" "tapeLength" "I", .code yX10_append cX10_append 3 none, .methodLink RX10 85 yX10_append, .instanceMethod yX10_append, .selects RX10 yX10_append yX10_append, .code yX10_feed cX10_feed 6 (some .int), .methodLink RL 13 yX10_feed, .instanceMethod yX10_feed, .selects RX10 yX10_feed yX10_feed, .fieldLink RX11 922 "ArrayHouseModel" "taped" "I", .code yX11_feed cX11_feed 8 (some .int), .methodLink RL 17 yX11_feed, .instanceMethod yX11_feed, .selects RX11 yX11_feed yX11_feed, .code yX10_trim cX10_trim 2 (some .int), .methodLink RL 18 yX10_trim, .instanceMethod yX10_trim, .selects RX10 yX10_trim yX10_trim, .code yX11_trim cX11_trim 2 (some .int), .methodLink RL 22 yX11_trim, .instanceMethod yX11_trim, .selects RX11 yX11_trim yX11_trim, .fieldLink RX10 92 "ArrayHouse" "pathLength" "I", .fieldLink RX7 18 "ArrayHouse$State" "event" "I", .fieldLink RX7 21 "ArrayHouse$State" "spent" "I", .fieldLink RX7 24 "ArrayHouse$State" "open" "I", .code yX7_begin cX7_begin 1 none, .instanceMethod yX7_begin, .selects RX7 yX7_begin yX7_begin, .methodLink RX1 47 Lib.Math.max.name, .fieldLink RX1 182 "ArrayHouse$Heap" "spareTop" "I", .code yX1_unsettle cX1_unsettle 2 none, .instanceMethod yX1_unsettle, .selects RX1 yX1_unsettle yX1_unsettle, .code yX1_moved cX1_moved 9 (some .int), .instanceMethod yX1_moved, .selects RX1 yX1_moved yX1_moved, .fieldLink RX3 76 "ArrayHouse$Places" "deepest" "I", .code yX3_firstSlot cX3_firstSlot 2 (some .int), .methodLink RX3 61 yX3_firstSlot, .instanceMethod yX3_firstSlot, .selects RX3 yX3_firstSlot yX3_firstSlot, .code yX10_peek cX10_peek 2 (some .int), .static yX10_peek, .fieldLink RX8 35 "ArrayHouse$Text" "count" "I", .code yX8_unmake cX8_unmake 4 none, .instanceMethod yX8_unmake, .selects RX8 yX8_unmake yX8_unmake, .methodLink RX1 185 arraycopyName, .native arraycopyName, .static arraycopyName, .initialized "java/lang/System", .code yX1_settle cX1_settle 1 none, .instanceMethod yX1_settle, .selects RX1 yX1_settle yX1_settle, .code yX3_pack cX3_pack 8 (some .int), .instanceMethod yX3_pack, .selects RX3 yX3_pack yX3_pack, .code yX3_meansAt cX3_meansAt 2 (some .int), .instanceMethod yX3_meansAt, .selects RX3 yX3_meansAt yX3_meansAt, .code yX10_keepHouse cX10_keepHouse 4 none, .methodLink RX10 98 yX10_keepHouse, .instanceMethod yX10_keepHouse, .selects RX10 yX10_keepHouse yX10_keepHouse, .fieldLink RX8 49 "ArrayHouse$Text" "innermost" "I", .fieldLink RX8 26 "ArrayHouse$Text" "length" "I", .code yX8_scan cX8_scan 5 (some .int), .instanceMethod yX8_scan, .selects RX8 yX8_scan yX8_scan, .code yX8_firstOf cX8_firstOf 7 (some .int), .methodLink RX8 151 yX8_firstOf, .instanceMethod yX8_firstOf, .selects RX8 yX8_firstOf yX8_firstOf, .code yX8_statementEnd cX8_statementEnd 3 (some .int), .instanceMethod yX8_statementEnd, .selects RX8 yX8_statementEnd yX8_statementEnd, .code yX1_size cX1_size 2 (some .int), .instanceMethod yX1_size, .selects RX1 yX1_size yX1_size, .code yX3_keep cX3_keep 3 (some .int), .instanceMethod yX3_keep, .selects RX3 yX3_keep yX3_keep, .code yX10_statements cX10_statements 8 none, .methodLink RX10 112 yX10_statements, .instanceMethod yX10_statements, .selects RX10 yX10_statements yX10_statements, .code yX10_run cX10_run 4 (some .int), .methodLink RL 23 yX10_run, .instanceMethod yX10_run, .selects RX10 yX10_run yX10_run, .fieldLink RX11 1 "ArrayHouseModel" "event" "I", .fieldLink RX11 7 "ArrayHouseModel" "steps" "I", .fieldLink RX11 439 "ArrayHouseModel" "open" "I", .fieldLink RX11 527 "ArrayHouseModel" "waits" "I", .fieldLink RX11 873 "ArrayHouseModel" "guards" "I", .fieldLink RX11 798 "ArrayHouseModel" "choosing" "I", .fieldLink RX11 562 "ArrayHouseModel" "tokens" "I", .fieldLink RX11 330 "ArrayHouseModel" "saidMany" "I", .fieldLink RX11 925 "ArrayHouseModel" "views" "I", .fieldLink RX11 695 "ArrayHouseModel" "byteTop" "I", .fieldLink RX11 577 "ArrayHouseModel" "at" "I", .fieldLink RX11 553 "ArrayHouseModel" "end" "I", .fieldLink RX11 586 "ArrayHouseModel" "fault" "I", .code yX11_byteOf cX11_byteOf 2 (some .int), .methodLink RX11 589 yX11_byteOf, .instanceMethod yX11_byteOf, .selects RX11 yX11_byteOf yX11_byteOf, .code yX11_scan cX11_scan 7 (some .int), .methodLink RX11 698 yX11_scan, .instanceMethod yX11_scan, .selects RX11 yX11_scan yX11_scan, .code yX11_statementEnd cX11_statementEnd 4 (some .int), .methodLink RX11 897 yX11_statementEnd, .instanceMethod yX11_statementEnd, .selects RX11 yX11_statementEnd yX11_statementEnd, .fieldLink RX11 870 "ArrayHouseModel" "frames" "I", .code yX11_unframe cX11_unframe 3 none, .methodLink RX11 882 yX11_unframe, .instanceMethod yX11_unframe, .selects RX11 yX11_unframe yX11_unframe, .fieldLink RX11 934 "ArrayHouseModel" "keepTop" "I", .code yX11_settle cX11_settle 2 none, .methodLink RX11 931 yX11_settle, .instanceMethod yX11_settle, .selects RX11 yX11_settle yX11_settle, .code yX11_run cX11_run 5 (some .int), .methodLink RL 27 yX11_run, .instanceMethod yX11_run, .selects RX11 yX11_run yX11_run, .code yX10_at cX10_at 1 (some .int), .methodLink RL 28 yX10_at, .instanceMethod yX10_at, .selects RX10 yX10_at yX10_at, .code yX11_at cX11_at 1 (some .int), .methodLink RL 31 yX11_at, .instanceMethod yX11_at, .selects RX11 yX11_at yX11_at, .code yX10_steps cX10_steps 1 (some .int), .methodLink RL 32 yX10_steps, .instanceMethod yX10_steps, .selects RX10 yX10_steps yX10_steps, .code yX11_steps cX11_steps 1 (some .int), .methodLink RL 35 yX11_steps, .instanceMethod yX11_steps, .selects RX11 yX11_steps yX11_steps, .code yX10_shown cX10_shown 1 (some .int), .methodLink RL 36 yX10_shown, .instanceMethod yX10_shown, .selects RX10 yX10_shown yX10_shown, .code yX11_shown cX11_shown 1 (some .int), .methodLink RL 39 yX11_shown, .instanceMethod yX11_shown, .selects RX11 yX11_shown yX11_shown, .code yX10_byteAt cX10_byteAt 2 (some .int), .methodLink RL 40 yX10_byteAt, .instanceMethod yX10_byteAt, .selects RX10 yX10_byteAt yX10_byteAt, .code yX11_byteAt cX11_byteAt 2 (some .int), .methodLink RL 43 yX11_byteAt, .instanceMethod yX11_byteAt, .selects RX11 yX11_byteAt yX11_byteAt, .code yX10_nameOnTape cX10_nameOnTape 3 (some .int), .methodLink RX10 193 yX10_nameOnTape, .instanceMethod yX10_nameOnTape, .selects RX10 yX10_nameOnTape yX10_nameOnTape, .code yX10_view cX10_view 2 (some .int), .methodLink RL 44 yX10_view, .instanceMethod yX10_view, .selects RX10 yX10_view yX10_view, .code yX11_taken_ cX11_taken_ 4 (some .int), .methodLink RX11 940 yX11_taken_, .instanceMethod yX11_taken_, .selects RX11 yX11_taken_ yX11_taken_, .code yX11_view cX11_view 2 (some .int), .methodLink RL 47 yX11_view, .instanceMethod yX11_view, .selects RX11 yX11_view yX11_view, .code yX10_viewed cX10_viewed 1 (some .int), .methodLink RX10 213 yX10_viewed, .instanceMethod yX10_viewed, .selects RX10 yX10_viewed yX10_viewed, .code yX10_into cX10_into 3 (some .int), .methodLink RL 48 yX10_into, .instanceMethod yX10_into, .selects RX10 yX10_into yX10_into, .code yX11_into cX11_into 2 (some .int), .methodLink RL 51 yX11_into, .instanceMethod yX11_into, .selects RX11 yX11_into yX11_into, .code yX10_back cX10_back 1 (some .int), .methodLink RL 52 yX10_back, .instanceMethod yX10_back, .selects RX10 yX10_back yX10_back, .code yX11_back cX11_back 1 (some .int), .methodLink RL 55 yX11_back, .instanceMethod yX11_back, .selects RX11 yX11_back yX11_back, .code yX10_about cX10_about 3 (some .int), .methodLink RL 56 yX10_about, .instanceMethod yX10_about, .selects RX10 yX10_about yX10_about, .code yX11_about cX11_about 2 (some .int), .methodLink RL 59 yX11_about, .instanceMethod yX11_about, .selects RX11 yX11_about yX11_about, .code yX10_extent cX10_extent 3 (some .int), .methodLink RL 60 yX10_extent, .instanceMethod yX10_extent, .selects RX10 yX10_extent yX10_extent, .code yX11_extent_ cX11_extent_ 2 (some .int), .methodLink RL 63 yX11_extent_, .instanceMethod yX11_extent_, .selects RX11 yX11_extent_ yX11_extent_, .code yX10_kind cX10_kind 4 (some .int), .methodLink RL 64 yX10_kind, .instanceMethod yX10_kind, .selects RX10 yX10_kind yX10_kind, .code yX11_viewed cX11_viewed 2 (some .boolean), .methodLink RX11 949 yX11_viewed, .instanceMethod yX11_viewed, .selects RX11 yX11_viewed yX11_viewed, .code yX11_kind cX11_kind 2 (some .int), .methodLink RL 67 yX11_kind, .instanceMethod yX11_kind, .selects RX11 yX11_kind yX11_kind, .code yX10_number cX10_number 7 (some .int), .methodLink RL 68 yX10_number, .instanceMethod yX10_number, .selects RX10 yX10_number yX10_number, .code yX11_number_ cX11_number_ 3 (some .int), .methodLink RL 72 yX11_number_, .instanceMethod yX11_number_, .selects RX11 yX11_number_ yX11_number_, .code yX10_meaning cX10_meaning 4 (some .int), .methodLink RX10 241 yX10_meaning, .instanceMethod yX10_meaning, .selects RX10 yX10_meaning yX10_meaning, .code yX4_houseBytes cX4_houseBytes 3 (some .int), .instanceMethod yX4_houseBytes, .selects RX4 yX4_houseBytes yX4_houseBytes, .code yX10_sizes cX10_sizes 3 (some .int), .methodLink RX10 247 yX10_sizes, .instanceMethod yX10_sizes, .selects RX10 yX10_sizes yX10_sizes, .code yX10_told cX10_told 2 (some .int), .methodLink RL 73 yX10_told, .instanceMethod yX10_told, .selects RX10 yX10_told yX10_told, .fieldLink RX11 674 "ArrayHouseModel" "textTop" "I", .code yX11_told cX11_told 6 (some .int), .methodLink RL 76 yX11_told, .instanceMethod yX11_told, .selects RX11 yX11_told yX11_told, .code yX10_forget cX10_forget 3 (some .int), .methodLink RL 77 yX10_forget, .instanceMethod yX10_forget, .selects RX10 yX10_forget yX10_forget, .code yX11_forget cX11_forget 3 (some .int), .methodLink RL 80 yX11_forget, .instanceMethod yX11_forget, .selects RX11 yX11_forget yX11_forget, .constant RX10 259 2147483646, .code yX10_set cX10_set 4 (some .int), .methodLink RL 81 yX10_set, .instanceMethod yX10_set, .selects RX10 yX10_set yX10_set, .constantLong RX11 155 2147483647, .code yX11_set_ cX11_set_ 4 (some .int), .methodLink RL 85 yX11_set_, .instanceMethod yX11_set_, .selects RX11 yX11_set_ yX11_set_]
def WU : List Cond := wsX00 ++ (wsX10 ++ (wsX20 ++ (wsX30 ++ (wsX40 ++ (wsX50 ++ (wsX60 ++ (wsX70 ++ (wsX80 ++ (wsX90 ++ (wsX100 ++ (wsX110)))))))))))
def WA : List Cond := WB ++ WU
set_option maxRecDepth 100000 in
set_option maxHeartbeats 4000000 in
theorem WA_good : GoodIn lw_tbl WA := goodIn_p WA [452, 457, 494, 539, 576, 647, 643, 670, 692, 721, 742, 715, 449, 2243, 848, 844, 2481, 852, 2485, 860, 872, 877, 921, 913, 931, 944, 868, 926, 864, 979, 1178, 1174, 1263, 1288, 1170, 856, 2497, 2493, 2559, 3188, 3284, 2489, 2148, 3292, 2152, 3296, 2156, 3300, 2160, 3304, 2168, 2164, 3312, 3308, 2181, 2177, 3316, 2188, 3324, 2192, 3328, 2206, 3337, 2211, 3345, 3341, 2216, 3349, 2224, 1449, 2229, 2220, 3353, 2233, 3357, 2237, 3361] rfl (by decide +kernel)
theorem WA_g {w : Cond} (h : w ∈ WA) := (WA_good w h).2
set_option maxRecDepth 100000 in
theorem mw_0 : (.classLink RL 7 RX10 : Cond) ∈ WA := List.mem_append_left _ (List.mem_of_getElem? (i := 0) rfl)
set_option maxRecDepth 100000 in
theorem mw_1 : (.instantiable RX10 11 : Cond) ∈ WA := List.mem_append_left _ (List.mem_of_getElem? (i := 1) rfl)
set_option maxRecDepth 100000 in
theorem mw_2 : (.initialized RX10 : Cond) ∈ WA := List.mem_append_left _ (List.mem_of_getElem? (i := 2) rfl)
set_option maxRecDepth 100000 in
theorem mw_3 : (.methodLink RX10 1 Lib.objectInit : Cond) ∈ WA := List.mem_append_left _ (List.mem_of_getElem? (i := 3) rfl)
set_option maxRecDepth 100000 in
theorem mw_4 : (.instanceMethod Lib.objectInit : Cond) ∈ WA := List.mem_append_left _ (List.mem_of_getElem? (i := 4) rfl)
set_option maxRecDepth 100000 in
theorem mw_5 : (.code Lib.objectInit ⟨#[0xb1]⟩ 1 none : Cond) ∈ WA := List.mem_append_left _ (List.mem_of_getElem? (i := 5) rfl)
set_option maxRecDepth 100000 in
theorem mw_6 : (.classLink RX10 7 RX7 : Cond) ∈ WA := List.mem_append_left _ (List.mem_of_getElem? (i := 6) rfl)
set_option maxRecDepth 100000 in
theorem mw_7 : (.instantiable RX7 5 : Cond) ∈ WA := List.mem_append_left _ (List.mem_of_getElem? (i := 7) rfl)
set_option maxRecDepth 100000 in
theorem mw_8 : (.initialized RX7 : Cond) ∈ WA := List.mem_append_left _ (List.mem_of_getElem? (i := 8) rfl)
set_option maxRecDepth 100000 in
theorem mw_9 : (.methodLink RX7 3 Lib.objectInit : Cond) ∈ WA := List.mem_append_left _ (List.mem_of_getElem? (i := 9) rfl)
set_option maxRecDepth 100000 in
theorem mw_10 : (.fieldLink RX7 9 "ArrayHouse$State" "origin" "I" : Cond) ∈ WA := List.mem_append_left _ (List.mem_of_getElem? (i := 10) rfl)
set_option maxRecDepth 100000 in
theorem mw_11 : (.fieldLink RX7 15 "ArrayHouse$State" "link" "I" : Cond) ∈ WA := List.mem_append_left _ (List.mem_of_getElem? (i := 11) rfl)
set_option maxRecDepth 100000 in
theorem mw_12 : (.code yX7_init cX7_init 1 none : Cond) ∈ WA := List.mem_append_left _ (List.mem_of_getElem? (i := 12) rfl)
set_option maxRecDepth 100000 in
theorem mw_13 : (.instanceMethod yX7_init : Cond) ∈ WA := List.mem_append_left _ (List.mem_of_getElem? (i := 13) rfl)
set_option maxRecDepth 100000 in
theorem mw_14 : (.fieldLink RX10 10 "ArrayHouse" "state" "LArrayHouse$State;" : Cond) ∈ WA := List.mem_append_left _ (List.mem_of_getElem? (i := 14) rfl)
set_option maxRecDepth 100000 in
theorem mw_15 : (.classLink RX10 16 RX1 : Cond) ∈ WA := List.mem_append_left _ (List.mem_of_getElem? (i := 15) rfl)
set_option maxRecDepth 100000 in
theorem mw_16 : (.instantiable RX1 9 : Cond) ∈ WA := List.mem_append_left _ (List.mem_of_getElem? (i := 16) rfl)
set_option maxRecDepth 100000 in
theorem mw_17 : (.initialized RX1 : Cond) ∈ WA := List.mem_append_left _ (List.mem_of_getElem? (i := 17) rfl)
set_option maxRecDepth 100000 in
theorem mw_18 : (.methodLink RX1 3 Lib.objectInit : Cond) ∈ WA := List.mem_append_left _ (List.mem_of_getElem? (i := 18) rfl)
set_option maxRecDepth 100000 in
theorem mw_19 : (.arrayClass .int : Cond) ∈ WA := List.mem_append_left _ (List.mem_of_getElem? (i := 19) rfl)
set_option maxRecDepth 100000 in
theorem mw_20 : (.fieldLink RX1 9 "ArrayHouse$Heap" "shape" "[I" : Cond) ∈ WA := List.mem_append_left _ (List.mem_of_getElem? (i := 20) rfl)
set_option maxRecDepth 100000 in
theorem mw_21 : (.fieldLink RX1 15 "ArrayHouse$Heap" "words" "[I" : Cond) ∈ WA := List.mem_append_left _ (List.mem_of_getElem? (i := 21) rfl)
set_option maxRecDepth 100000 in
theorem mw_22 : (.fieldLink RX1 18 "ArrayHouse$Heap" "spare" "[I" : Cond) ∈ WA := List.mem_append_left _ (List.mem_of_getElem? (i := 22) rfl)
set_option maxRecDepth 100000 in
theorem mw_23 : (.fieldLink RX1 21 "ArrayHouse$Heap" "top" "I" : Cond) ∈ WA := List.mem_append_left _ (List.mem_of_getElem? (i := 23) rfl)
set_option maxRecDepth 100000 in
theorem mw_24 : (.fieldLink RX1 25 "ArrayHouse$Heap" "base" "I" : Cond) ∈ WA := List.mem_append_left _ (List.mem_of_getElem? (i := 24) rfl)
set_option maxRecDepth 100000 in
theorem mw_25 : (.fieldLink RX1 28 "ArrayHouse$Heap" "fillD" "I" : Cond) ∈ WA := List.mem_append_left _ (List.mem_of_getElem? (i := 25) rfl)
set_option maxRecDepth 100000 in
theorem mw_26 : (.fieldLink RX1 31 "ArrayHouse$Heap" "state" "LArrayHouse$State;" : Cond) ∈ WA := List.mem_append_left _ (List.mem_of_getElem? (i := 26) rfl)
set_option maxRecDepth 100000 in
theorem mw_27 : (.code yX1_init cX1_init 2 none : Cond) ∈ WA := List.mem_append_left _ (List.mem_of_getElem? (i := 27) rfl)
set_option maxRecDepth 100000 in
theorem mw_28 : (.instanceMethod yX1_init : Cond) ∈ WA := List.mem_append_left _ (List.mem_of_getElem? (i := 28) rfl)
set_option maxRecDepth 100000 in
theorem mw_29 : (.fieldLink RX10 21 "ArrayHouse" "heap" "LArrayHouse$Heap;" : Cond) ∈ WA := List.mem_append_left _ (List.mem_of_getElem? (i := 29) rfl)
set_option maxRecDepth 100000 in
theorem mw_30 : (.classLink RX10 25 RX8 : Cond) ∈ WA := List.mem_append_left _ (List.mem_of_getElem? (i := 30) rfl)
set_option maxRecDepth 100000 in
theorem mw_31 : (.instantiable RX8 8 : Cond) ∈ WA := List.mem_append_left _ (List.mem_of_getElem? (i := 31) rfl)
set_option maxRecDepth 100000 in
theorem mw_32 : (.initialized RX8 : Cond) ∈ WA := List.mem_append_left _ (List.mem_of_getElem? (i := 32) rfl)
set_option maxRecDepth 100000 in
theorem mw_33 : (.methodLink RX8 3 Lib.objectInit : Cond) ∈ WA := List.mem_append_left _ (List.mem_of_getElem? (i := 33) rfl)
set_option maxRecDepth 100000 in
theorem mw_34 : (.arrayClass .byte : Cond) ∈ WA := List.mem_append_left _ (List.mem_of_getElem? (i := 34) rfl)
set_option maxRecDepth 100000 in
theorem mw_35 : (.fieldLink RX8 9 "ArrayHouse$Text" "kept" "[B" : Cond) ∈ WA := List.mem_append_left _ (List.mem_of_getElem? (i := 35) rfl)
set_option maxRecDepth 100000 in
theorem mw_36 : (.fieldLink RX8 15 "ArrayHouse$Text" "bytes" "[B" : Cond) ∈ WA := List.mem_append_left _ (List.mem_of_getElem? (i := 36) rfl)
set_option maxRecDepth 100000 in
theorem mw_37 : (.fieldLink RX8 18 "ArrayHouse$Text" "tokens" "[I" : Cond) ∈ WA := List.mem_append_left _ (List.mem_of_getElem? (i := 37) rfl)
set_option maxRecDepth 100000 in
theorem mw_38 : (.fieldLink RX8 22 "ArrayHouse$Text" "lastMade" "I" : Cond) ∈ WA := List.mem_append_left _ (List.mem_of_getElem? (i := 38) rfl)
set_option maxRecDepth 100000 in
theorem mw_39 : (.code yX8_init cX8_init 1 none : Cond) ∈ WA := List.mem_append_left _ (List.mem_of_getElem? (i := 39) rfl)
set_option maxRecDepth 100000 in
theorem mw_40 : (.instanceMethod yX8_init : Cond) ∈ WA := List.mem_append_left _ (List.mem_of_getElem? (i := 40) rfl)
set_option maxRecDepth 100000 in
theorem mw_41 : (.fieldLink RX10 28 "ArrayHouse" "text" "LArrayHouse$Text;" : Cond) ∈ WA := List.mem_append_left _ (List.mem_of_getElem? (i := 41) rfl)
set_option maxRecDepth 100000 in
theorem mw_42 : (.classLink RX10 32 RX3 : Cond) ∈ WA := List.mem_append_left _ (List.mem_of_getElem? (i := 42) rfl)
set_option maxRecDepth 100000 in
theorem mw_43 : (.instantiable RX3 16 : Cond) ∈ WA := List.mem_append_left _ (List.mem_of_getElem? (i := 43) rfl)
set_option maxRecDepth 100000 in
theorem mw_44 : (.initialized RX3 : Cond) ∈ WA := List.mem_append_left _ (List.mem_of_getElem? (i := 44) rfl)
set_option maxRecDepth 100000 in
theorem mw_45 : (.methodLink RX3 3 Lib.objectInit : Cond) ∈ WA := List.mem_append_left _ (List.mem_of_getElem? (i := 45) rfl)
set_option maxRecDepth 100000 in
theorem mw_46 : (.fieldLink RX3 11 "ArrayHouse$Places" "nameA" "[I" : Cond) ∈ WA := List.mem_append_left _ (List.mem_of_getElem? (i := 46) rfl)
set_option maxRecDepth 100000 in
theorem mw_47 : (.fieldLink RX3 15 "ArrayHouse$Places" "nameB" "[I" : Cond) ∈ WA := List.mem_append_left _ (List.mem_of_getElem? (i := 47) rfl)
set_option maxRecDepth 100000 in
theorem mw_48 : (.fieldLink RX3 18 "ArrayHouse$Places" "means" "[I" : Cond) ∈ WA := List.mem_append_left _ (List.mem_of_getElem? (i := 48) rfl)
set_option maxRecDepth 100000 in
theorem mw_49 : (.fieldLink RX3 21 "ArrayHouse$Places" "from" "[I" : Cond) ∈ WA := List.mem_append_left _ (List.mem_of_getElem? (i := 49) rfl)
set_option maxRecDepth 100000 in
theorem mw_50 : (.fieldLink RX3 24 "ArrayHouse$Places" "to" "[I" : Cond) ∈ WA := List.mem_append_left _ (List.mem_of_getElem? (i := 50) rfl)
set_option maxRecDepth 100000 in
theorem mw_51 : (.fieldLink RX3 27 "ArrayHouse$Places" "used" "[I" : Cond) ∈ WA := List.mem_append_left _ (List.mem_of_getElem? (i := 51) rfl)
set_option maxRecDepth 100000 in
theorem mw_52 : (.fieldLink RX3 30 "ArrayHouse$Places" "around" "[I" : Cond) ∈ WA := List.mem_append_left _ (List.mem_of_getElem? (i := 52) rfl)
set_option maxRecDepth 100000 in
theorem mw_53 : (.fieldLink RX3 33 "ArrayHouse$Places" "left" "[I" : Cond) ∈ WA := List.mem_append_left _ (List.mem_of_getElem? (i := 53) rfl)
set_option maxRecDepth 100000 in
theorem mw_54 : (.fieldLink RX3 36 "ArrayHouse$Places" "right" "[I" : Cond) ∈ WA := List.mem_append_left _ (List.mem_of_getElem? (i := 54) rfl)
set_option maxRecDepth 100000 in
theorem mw_55 : (.fieldLink RX3 39 "ArrayHouse$Places" "self" "[I" : Cond) ∈ WA := List.mem_append_left _ (List.mem_of_getElem? (i := 55) rfl)
set_option maxRecDepth 100000 in
theorem mw_56 : (.fieldLink RX3 42 "ArrayHouse$Places" "guards" "[I" : Cond) ∈ WA := List.mem_append_left _ (List.mem_of_getElem? (i := 56) rfl)
set_option maxRecDepth 100000 in
theorem mw_57 : (.fieldLink RX3 45 "ArrayHouse$Places" "state" "LArrayHouse$State;" : Cond) ∈ WA := List.mem_append_left _ (List.mem_of_getElem? (i := 57) rfl)
set_option maxRecDepth 100000 in
theorem mw_58 : (.fieldLink RX3 49 "ArrayHouse$Places" "heap" "LArrayHouse$Heap;" : Cond) ∈ WA := List.mem_append_left _ (List.mem_of_getElem? (i := 58) rfl)
set_option maxRecDepth 100000 in
theorem mw_59 : (.fieldLink RX3 53 "ArrayHouse$Places" "text" "LArrayHouse$Text;" : Cond) ∈ WA := List.mem_append_left _ (List.mem_of_getElem? (i := 59) rfl)
set_option maxRecDepth 100000 in
theorem mw_60 : (.code yX3_init cX3_init 4 none : Cond) ∈ WA := List.mem_append_left _ (List.mem_of_getElem? (i := 60) rfl)
set_option maxRecDepth 100000 in
theorem mw_61 : (.instanceMethod yX3_init : Cond) ∈ WA := List.mem_append_left _ (List.mem_of_getElem? (i := 61) rfl)
set_option maxRecDepth 100000 in
theorem mw_62 : (.fieldLink RX10 37 "ArrayHouse" "places" "LArrayHouse$Places;" : Cond) ∈ WA := List.mem_append_left _ (List.mem_of_getElem? (i := 62) rfl)
set_option maxRecDepth 100000 in
theorem mw_63 : (.classLink RX10 41 RX9 : Cond) ∈ WA := List.mem_append_left _ (List.mem_of_getElem? (i := 63) rfl)
set_option maxRecDepth 100000 in
theorem mw_64 : (.instantiable RX9 4 : Cond) ∈ WA := List.mem_append_left _ (List.mem_of_getElem? (i := 64) rfl)
set_option maxRecDepth 100000 in
theorem mw_65 : (.initialized RX9 : Cond) ∈ WA := List.mem_append_left _ (List.mem_of_getElem? (i := 65) rfl)
set_option maxRecDepth 100000 in
theorem mw_66 : (.methodLink RX9 3 Lib.objectInit : Cond) ∈ WA := List.mem_append_left _ (List.mem_of_getElem? (i := 66) rfl)
set_option maxRecDepth 100000 in
theorem mw_67 : (.fieldLink RX9 9 "ArrayHouse$Writer" "heap" "LArrayHouse$Heap;" : Cond) ∈ WA := List.mem_append_left _ (List.mem_of_getElem? (i := 67) rfl)
set_option maxRecDepth 100000 in
theorem mw_68 : (.methodLink RX9 15 Lib.Math.max.name : Cond) ∈ WA := List.mem_append_left _ (List.mem_of_getElem? (i := 68) rfl)
set_option maxRecDepth 100000 in
theorem mw_69 : (.static Lib.Math.max.name : Cond) ∈ WA := List.mem_append_left _ (List.mem_of_getElem? (i := 69) rfl)
set_option maxRecDepth 100000 in
theorem mw_70 : (.initialized "java/lang/Math" : Cond) ∈ WA := List.mem_append_left _ (List.mem_of_getElem? (i := 70) rfl)
set_option maxRecDepth 100000 in
theorem mw_71 : (.code Lib.Math.max.name Lib.Math.max.code 2 (some .int) : Cond) ∈ WA := List.mem_append_left _ (List.mem_of_getElem? (i := 71) rfl)
set_option maxRecDepth 100000 in
theorem mw_72 : (.fieldLink RX9 21 "ArrayHouse$Writer" "row" "[B" : Cond) ∈ WA := List.mem_append_left _ (List.mem_of_getElem? (i := 72) rfl)
set_option maxRecDepth 100000 in
theorem mw_73 : (.code yX9_init cX9_init 3 none : Cond) ∈ WA := List.mem_append_left _ (List.mem_of_getElem? (i := 73) rfl)
set_option maxRecDepth 100000 in
theorem mw_74 : (.instanceMethod yX9_init : Cond) ∈ WA := List.mem_append_left _ (List.mem_of_getElem? (i := 74) rfl)
set_option maxRecDepth 100000 in
theorem mw_75 : (.fieldLink RX10 46 "ArrayHouse" "screen" "LArrayHouse$Writer;" : Cond) ∈ WA := List.mem_append_left _ (List.mem_of_getElem? (i := 75) rfl)
set_option maxRecDepth 100000 in
theorem mw_76 : (.fieldLink RX10 50 "ArrayHouse" "tape" "[B" : Cond) ∈ WA := List.mem_append_left _ (List.mem_of_getElem? (i := 76) rfl)
set_option maxRecDepth 100000 in
theorem mw_77 : (.fieldLink RX10 54 "ArrayHouse" "path" "[I" : Cond) ∈ WA := List.mem_append_left _ (List.mem_of_getElem? (i := 77) rfl)
set_option maxRecDepth 100000 in
theorem mw_78 : (.fieldLink RX10 58 "ArrayHouse" "eventAt" "I" : Cond) ∈ WA := List.mem_append_left _ (List.mem_of_getElem? (i := 78) rfl)
set_option maxRecDepth 100000 in
theorem mw_79 : (.classLink RX10 62 RX6 : Cond) ∈ WA := List.mem_append_left _ (List.mem_of_getElem? (i := 79) rfl)
set_option maxRecDepth 100000 in
theorem mw_80 : (.instantiable RX6 5 : Cond) ∈ WA := List.mem_append_left _ (List.mem_of_getElem? (i := 80) rfl)
set_option maxRecDepth 100000 in
theorem mw_81 : (.initialized RX6 : Cond) ∈ WA := List.mem_append_left _ (List.mem_of_getElem? (i := 81) rfl)
set_option maxRecDepth 100000 in
theorem mw_82 : (.methodLink RX6 3 Lib.objectInit : Cond) ∈ WA := List.mem_append_left _ (List.mem_of_getElem? (i := 82) rfl)
set_option maxRecDepth 100000 in
theorem mw_83 : (.fieldLink RX6 9 "ArrayHouse$Shapes" "rows" "[I" : Cond) ∈ WA := List.mem_append_left _ (List.mem_of_getElem? (i := 83) rfl)
set_option maxRecDepth 100000 in
theorem mw_84 : (.fieldLink RX6 15 "ArrayHouse$Shapes" "turn" "[I" : Cond) ∈ WA := List.mem_append_left _ (List.mem_of_getElem? (i := 84) rfl)
set_option maxRecDepth 100000 in
theorem mw_85 : (.fieldLink RX6 18 "ArrayHouse$Shapes" "place" "[I" : Cond) ∈ WA := List.mem_append_left _ (List.mem_of_getElem? (i := 85) rfl)
set_option maxRecDepth 100000 in
theorem mw_86 : (.fieldLink RX6 21 "ArrayHouse$Shapes" "state" "LArrayHouse$State;" : Cond) ∈ WA := List.mem_append_left _ (List.mem_of_getElem? (i := 86) rfl)
set_option maxRecDepth 100000 in
theorem mw_87 : (.fieldLink RX6 25 "ArrayHouse$Shapes" "heap" "LArrayHouse$Heap;" : Cond) ∈ WA := List.mem_append_left _ (List.mem_of_getElem? (i := 87) rfl)
set_option maxRecDepth 100000 in
theorem mw_88 : (.code yX6_init cX6_init 3 none : Cond) ∈ WA := List.mem_append_left _ (List.mem_of_getElem? (i := 88) rfl)
set_option maxRecDepth 100000 in
theorem mw_89 : (.instanceMethod yX6_init : Cond) ∈ WA := List.mem_append_left _ (List.mem_of_getElem? (i := 89) rfl)
set_option maxRecDepth 100000 in
theorem mw_90 : (.classLink RX10 67 RX2 : Cond) ∈ WA := List.mem_append_left _ (List.mem_of_getElem? (i := 90) rfl)
set_option maxRecDepth 100000 in
theorem mw_91 : (.instantiable RX2 5 : Cond) ∈ WA := List.mem_append_left _ (List.mem_of_getElem? (i := 91) rfl)
set_option maxRecDepth 100000 in
theorem mw_92 : (.initialized RX2 : Cond) ∈ WA := List.mem_append_left _ (List.mem_of_getElem? (i := 92) rfl)
set_option maxRecDepth 100000 in
theorem mw_93 : (.methodLink RX2 3 Lib.objectInit : Cond) ∈ WA := List.mem_append_left _ (List.mem_of_getElem? (i := 93) rfl)
set_option maxRecDepth 100000 in
theorem mw_94 : (.fieldLink RX2 9 "ArrayHouse$Operators" "state" "LArrayHouse$State;" : Cond) ∈ WA := List.mem_append_left _ (List.mem_of_getElem? (i := 94) rfl)
set_option maxRecDepth 100000 in
theorem mw_95 : (.fieldLink RX2 15 "ArrayHouse$Operators" "heap" "LArrayHouse$Heap;" : Cond) ∈ WA := List.mem_append_left _ (List.mem_of_getElem? (i := 95) rfl)
set_option maxRecDepth 100000 in
theorem mw_96 : (.fieldLink RX2 19 "ArrayHouse$Operators" "places" "LArrayHouse$Places;" : Cond) ∈ WA := List.mem_append_left _ (List.mem_of_getElem? (i := 96) rfl)
set_option maxRecDepth 100000 in
theorem mw_97 : (.fieldLink RX2 23 "ArrayHouse$Operators" "shapes" "LArrayHouse$Shapes;" : Cond) ∈ WA := List.mem_append_left _ (List.mem_of_getElem? (i := 97) rfl)
set_option maxRecDepth 100000 in
theorem mw_98 : (.code yX2_init cX2_init 5 none : Cond) ∈ WA := List.mem_append_left _ (List.mem_of_getElem? (i := 98) rfl)
set_option maxRecDepth 100000 in
theorem mw_99 : (.instanceMethod yX2_init : Cond) ∈ WA := List.mem_append_left _ (List.mem_of_getElem? (i := 99) rfl)
set_option maxRecDepth 100000 in
theorem mw_100 : (.classLink RX10 72 RX4 : Cond) ∈ WA := List.mem_append_left _ (List.mem_of_getElem? (i := 100) rfl)
set_option maxRecDepth 100000 in
theorem mw_101 : (.instantiable RX4 13 : Cond) ∈ WA := List.mem_append_left _ (List.mem_of_getElem? (i := 101) rfl)
set_option maxRecDepth 100000 in
theorem mw_102 : (.initialized RX4 : Cond) ∈ WA := List.mem_append_left _ (List.mem_of_getElem? (i := 102) rfl)
set_option maxRecDepth 100000 in
theorem mw_103 : (.methodLink RX4 3 Lib.objectInit : Cond) ∈ WA := List.mem_append_left _ (List.mem_of_getElem? (i := 103) rfl)
set_option maxRecDepth 100000 in
theorem mw_104 : (.fieldLink RX4 9 "ArrayHouse$Reader" "rows" "[I" : Cond) ∈ WA := List.mem_append_left _ (List.mem_of_getElem? (i := 104) rfl)
set_option maxRecDepth 100000 in
theorem mw_105 : (.fieldLink RX4 15 "ArrayHouse$Reader" "state" "LArrayHouse$State;" : Cond) ∈ WA := List.mem_append_left _ (List.mem_of_getElem? (i := 105) rfl)
set_option maxRecDepth 100000 in
theorem mw_106 : (.fieldLink RX4 19 "ArrayHouse$Reader" "heap" "LArrayHouse$Heap;" : Cond) ∈ WA := List.mem_append_left _ (List.mem_of_getElem? (i := 106) rfl)
set_option maxRecDepth 100000 in
theorem mw_107 : (.fieldLink RX4 23 "ArrayHouse$Reader" "text" "LArrayHouse$Text;" : Cond) ∈ WA := List.mem_append_left _ (List.mem_of_getElem? (i := 107) rfl)
set_option maxRecDepth 100000 in
theorem mw_108 : (.fieldLink RX4 27 "ArrayHouse$Reader" "places" "LArrayHouse$Places;" : Cond) ∈ WA := List.mem_append_left _ (List.mem_of_getElem? (i := 108) rfl)
set_option maxRecDepth 100000 in
theorem mw_109 : (.fieldLink RX4 31 "ArrayHouse$Reader" "shapes" "LArrayHouse$Shapes;" : Cond) ∈ WA := List.mem_append_left _ (List.mem_of_getElem? (i := 109) rfl)
set_option maxRecDepth 100000 in
theorem mw_110 : (.fieldLink RX4 35 "ArrayHouse$Reader" "operators" "LArrayHouse$Operators;" : Cond) ∈ WA := List.mem_append_left _ (List.mem_of_getElem? (i := 110) rfl)
set_option maxRecDepth 100000 in
theorem mw_111 : (.classLink RX4 39 RX5 : Cond) ∈ WA := List.mem_append_left _ (List.mem_of_getElem? (i := 111) rfl)
set_option maxRecDepth 100000 in
theorem mw_112 : (.instantiable RX5 4 : Cond) ∈ WA := List.mem_append_left _ (List.mem_of_getElem? (i := 112) rfl)
set_option maxRecDepth 100000 in
theorem mw_113 : (.initialized RX5 : Cond) ∈ WA := List.mem_append_left _ (List.mem_of_getElem? (i := 113) rfl)
set_option maxRecDepth 100000 in
theorem mw_114 : (.methodLink RX5 3 Lib.objectInit : Cond) ∈ WA := List.mem_append_left _ (List.mem_of_getElem? (i := 114) rfl)
set_option maxRecDepth 100000 in
theorem mw_115 : (.fieldLink RX5 9 "ArrayHouse$Scalars" "state" "LArrayHouse$State;" : Cond) ∈ WA := List.mem_append_left _ (List.mem_of_getElem? (i := 115) rfl)
set_option maxRecDepth 100000 in
theorem mw_116 : (.fieldLink RX5 15 "ArrayHouse$Scalars" "heap" "LArrayHouse$Heap;" : Cond) ∈ WA := List.mem_append_left _ (List.mem_of_getElem? (i := 116) rfl)
set_option maxRecDepth 100000 in
theorem mw_117 : (.code yX5_init cX5_init 3 none : Cond) ∈ WA := List.mem_append_left _ (List.mem_of_getElem? (i := 117) rfl)
set_option maxRecDepth 100000 in
theorem mw_118 : (.instanceMethod yX5_init : Cond) ∈ WA := List.mem_append_left _ (List.mem_of_getElem? (i := 118) rfl)
set_option maxRecDepth 100000 in
theorem mw_119 : (.fieldLink RX4 44 "ArrayHouse$Reader" "scalars" "LArrayHouse$Scalars;" : Cond) ∈ WA := List.mem_append_left _ (List.mem_of_getElem? (i := 119) rfl)
set_option maxRecDepth 100000 in
theorem mw_120 : (.classLink RX4 48 RX0 : Cond) ∈ WA := List.mem_append_left _ (List.mem_of_getElem? (i := 120) rfl)
set_option maxRecDepth 100000 in
theorem mw_121 : (.instantiable RX0 6 : Cond) ∈ WA := List.mem_append_left _ (List.mem_of_getElem? (i := 121) rfl)
set_option maxRecDepth 100000 in
theorem mw_122 : (.initialized RX0 : Cond) ∈ WA := List.mem_append_left _ (List.mem_of_getElem? (i := 122) rfl)
set_option maxRecDepth 100000 in
theorem mw_123 : (.methodLink RX0 3 Lib.objectInit : Cond) ∈ WA := List.mem_append_left _ (List.mem_of_getElem? (i := 123) rfl)
set_option maxRecDepth 100000 in
theorem mw_124 : (.fieldLink RX0 9 "ArrayHouse$Finds" "rows" "[I" : Cond) ∈ WA := List.mem_append_left _ (List.mem_of_getElem? (i := 124) rfl)
set_option maxRecDepth 100000 in
theorem mw_125 : (.fieldLink RX0 15 "ArrayHouse$Finds" "other" "[I" : Cond) ∈ WA := List.mem_append_left _ (List.mem_of_getElem? (i := 125) rfl)
set_option maxRecDepth 100000 in
theorem mw_126 : (.fieldLink RX0 18 "ArrayHouse$Finds" "state" "LArrayHouse$State;" : Cond) ∈ WA := List.mem_append_left _ (List.mem_of_getElem? (i := 126) rfl)
set_option maxRecDepth 100000 in
theorem mw_127 : (.fieldLink RX0 22 "ArrayHouse$Finds" "heap" "LArrayHouse$Heap;" : Cond) ∈ WA := List.mem_append_left _ (List.mem_of_getElem? (i := 127) rfl)
set_option maxRecDepth 100000 in
theorem mw_128 : (.fieldLink RX0 26 "ArrayHouse$Finds" "scalars" "LArrayHouse$Scalars;" : Cond) ∈ WA := List.mem_append_left _ (List.mem_of_getElem? (i := 128) rfl)
set_option maxRecDepth 100000 in
theorem mw_129 : (.classLink RX0 30 RX9 : Cond) ∈ WA := List.mem_append_left _ (List.mem_of_getElem? (i := 129) rfl)
set_option maxRecDepth 100000 in
theorem mw_130 : (.fieldLink RX0 35 "ArrayHouse$Finds" "writer" "LArrayHouse$Writer;" : Cond) ∈ WA := List.mem_append_left _ (List.mem_of_getElem? (i := 130) rfl)
set_option maxRecDepth 100000 in
theorem mw_131 : (.code yX0_init cX0_init 4 none : Cond) ∈ WA := List.mem_append_left _ (List.mem_of_getElem? (i := 131) rfl)
set_option maxRecDepth 100000 in
theorem mw_132 : (.instanceMethod yX0_init : Cond) ∈ WA := List.mem_append_left _ (List.mem_of_getElem? (i := 132) rfl)
set_option maxRecDepth 100000 in
theorem mw_133 : (.fieldLink RX4 53 "ArrayHouse$Reader" "finds" "LArrayHouse$Finds;" : Cond) ∈ WA := List.mem_append_left _ (List.mem_of_getElem? (i := 133) rfl)
set_option maxRecDepth 100000 in
theorem mw_134 : (.code yX4_init cX4_init 7 none : Cond) ∈ WA := List.mem_append_left _ (List.mem_of_getElem? (i := 134) rfl)
set_option maxRecDepth 100000 in
theorem mw_135 : (.instanceMethod yX4_init : Cond) ∈ WA := List.mem_append_left _ (List.mem_of_getElem? (i := 135) rfl)
set_option maxRecDepth 100000 in
theorem mw_136 : (.fieldLink RX10 77 "ArrayHouse" "reader" "LArrayHouse$Reader;" : Cond) ∈ WA := List.mem_append_left _ (List.mem_of_getElem? (i := 136) rfl)
set_option maxRecDepth 100000 in
theorem mw_137 : (.code yX10_init cX10_init 3 none : Cond) ∈ WA := List.mem_append_left _ (List.mem_of_getElem? (i := 137) rfl)
set_option maxRecDepth 100000 in
theorem mw_138 : (.methodLink RL 9 yX10_init : Cond) ∈ WA := List.mem_append_left _ (List.mem_of_getElem? (i := 138) rfl)
set_option maxRecDepth 100000 in
theorem mw_139 : (.instanceMethod yX10_init : Cond) ∈ WA := List.mem_append_left _ (List.mem_of_getElem? (i := 139) rfl)
set_option maxRecDepth 100000 in
theorem mw_140 : (.classLink RL 10 RX11 : Cond) ∈ WA := List.mem_append_left _ (List.mem_of_getElem? (i := 140) rfl)
set_option maxRecDepth 100000 in
theorem mw_141 : (.instantiable RX11 76 : Cond) ∈ WA := List.mem_append_left _ (List.mem_of_getElem? (i := 141) rfl)
set_option maxRecDepth 100000 in
theorem mw_142 : (.initialized RX11 : Cond) ∈ WA := List.mem_append_left _ (List.mem_of_getElem? (i := 142) rfl)
set_option maxRecDepth 100000 in
theorem mw_143 : (.methodLink RX11 900 Lib.objectInit : Cond) ∈ WA := List.mem_append_left _ (List.mem_of_getElem? (i := 143) rfl)
set_option maxRecDepth 100000 in
theorem mw_144 : (.fieldLink RX11 177 "ArrayHouseModel" "origin" "I" : Cond) ∈ WA := List.mem_append_left _ (List.mem_of_getElem? (i := 144) rfl)
set_option maxRecDepth 100000 in
theorem mw_145 : (.fieldLink RX11 151 "ArrayHouseModel" "link" "J" : Cond) ∈ WA := List.mem_append_left _ (List.mem_of_getElem? (i := 145) rfl)
set_option maxRecDepth 100000 in
theorem mw_146 : (.constant RX11 906 2200000 : Cond) ∈ WA := List.mem_append_left _ (List.mem_of_getElem? (i := 146) rfl)
set_option maxRecDepth 100000 in
theorem mw_147 : (.fieldLink RX11 11 "ArrayHouseModel" "mem" "[I" : Cond) ∈ WA := List.mem_append_left _ (List.mem_of_getElem? (i := 147) rfl)
set_option maxRecDepth 100000 in
theorem mw_148 : (.constant RX11 907 1000000 : Cond) ∈ WA := List.mem_append_left _ (List.mem_of_getElem? (i := 148) rfl)
set_option maxRecDepth 100000 in
theorem mw_149 : (.fieldLink RX11 908 "ArrayHouseModel" "kept" "[I" : Cond) ∈ WA := List.mem_append_left _ (List.mem_of_getElem? (i := 149) rfl)
set_option maxRecDepth 100000 in
theorem mw_150 : (.fieldLink RX11 35 "ArrayHouseModel" "top" "I" : Cond) ∈ WA := List.mem_append_left _ (List.mem_of_getElem? (i := 150) rfl)
set_option maxRecDepth 100000 in
theorem mw_151 : (.fieldLink RX11 52 "ArrayHouseModel" "shape" "[I" : Cond) ∈ WA := List.mem_append_left _ (List.mem_of_getElem? (i := 151) rfl)
set_option maxRecDepth 100000 in
theorem mw_152 : (.fieldLink RX11 22 "ArrayHouseModel" "itemD" "I" : Cond) ∈ WA := List.mem_append_left _ (List.mem_of_getElem? (i := 152) rfl)
set_option maxRecDepth 100000 in
theorem mw_153 : (.fieldLink RX11 286 "ArrayHouseModel" "spots" "[I" : Cond) ∈ WA := List.mem_append_left _ (List.mem_of_getElem? (i := 153) rfl)
set_option maxRecDepth 100000 in
theorem mw_154 : (.fieldLink RX11 304 "ArrayHouseModel" "spotsToo" "[I" : Cond) ∈ WA := List.mem_append_left _ (List.mem_of_getElem? (i := 154) rfl)
set_option maxRecDepth 100000 in
theorem mw_155 : (.fieldLink RX11 96 "ArrayHouseModel" "fills" "[I" : Cond) ∈ WA := List.mem_append_left _ (List.mem_of_getElem? (i := 155) rfl)
set_option maxRecDepth 100000 in
theorem mw_156 : (.fieldLink RX11 333 "ArrayHouseModel" "said" "[B" : Cond) ∈ WA := List.mem_append_left _ (List.mem_of_getElem? (i := 156) rfl)
set_option maxRecDepth 100000 in
theorem mw_157 : (.fieldLink RX11 340 "ArrayHouseModel" "spoken" "[B" : Cond) ∈ WA := List.mem_append_left _ (List.mem_of_getElem? (i := 157) rfl)
set_option maxRecDepth 100000 in
theorem mw_158 : (.constant RX11 911 130000 : Cond) ∈ WA := List.mem_append_left _ (List.mem_of_getElem? (i := 158) rfl)
set_option maxRecDepth 100000 in
theorem mw_159 : (.fieldLink RX11 530 "ArrayHouseModel" "wait" "[I" : Cond) ∈ WA := List.mem_append_left _ (List.mem_of_getElem? (i := 159) rfl)
set_option maxRecDepth 100000 in
theorem mw_160 : (.constant RX11 912 60000 : Cond) ∈ WA := List.mem_append_left _ (List.mem_of_getElem? (i := 160) rfl)
set_option maxRecDepth 100000 in
theorem mw_161 : (.fieldLink RX11 556 "ArrayHouseModel" "bytes" "[B" : Cond) ∈ WA := List.mem_append_left _ (List.mem_of_getElem? (i := 161) rfl)
set_option maxRecDepth 100000 in
theorem mw_162 : (.fieldLink RX11 559 "ArrayHouseModel" "kind" "[I" : Cond) ∈ WA := List.mem_append_left _ (List.mem_of_getElem? (i := 162) rfl)
set_option maxRecDepth 100000 in
theorem mw_163 : (.fieldLink RX11 565 "ArrayHouseModel" "low" "[I" : Cond) ∈ WA := List.mem_append_left _ (List.mem_of_getElem? (i := 163) rfl)
set_option maxRecDepth 100000 in
theorem mw_164 : (.fieldLink RX11 568 "ArrayHouseModel" "high" "[I" : Cond) ∈ WA := List.mem_append_left _ (List.mem_of_getElem? (i := 164) rfl)
set_option maxRecDepth 100000 in
theorem mw_165 : (.fieldLink RX11 571 "ArrayHouseModel" "from" "[I" : Cond) ∈ WA := List.mem_append_left _ (List.mem_of_getElem? (i := 165) rfl)
set_option maxRecDepth 100000 in
theorem mw_166 : (.fieldLink RX11 574 "ArrayHouseModel" "to" "[I" : Cond) ∈ WA := List.mem_append_left _ (List.mem_of_getElem? (i := 166) rfl)
set_option maxRecDepth 100000 in
theorem mw_167 : (.fieldLink RX11 580 "ArrayHouseModel" "partner" "[I" : Cond) ∈ WA := List.mem_append_left _ (List.mem_of_getElem? (i := 167) rfl)
set_option maxRecDepth 100000 in
theorem mw_168 : (.fieldLink RX11 583 "ArrayHouseModel" "literal" "[I" : Cond) ∈ WA := List.mem_append_left _ (List.mem_of_getElem? (i := 168) rfl)
set_option maxRecDepth 100000 in
theorem mw_169 : (.fieldLink RX11 653 "ArrayHouseModel" "meant" "[I" : Cond) ∈ WA := List.mem_append_left _ (List.mem_of_getElem? (i := 169) rfl)
set_option maxRecDepth 100000 in
theorem mw_170 : (.fieldLink RX11 656 "ArrayHouseModel" "nameLow" "[I" : Cond) ∈ WA := List.mem_append_left _ (List.mem_of_getElem? (i := 170) rfl)
set_option maxRecDepth 100000 in
theorem mw_171 : (.fieldLink RX11 659 "ArrayHouseModel" "nameHigh" "[I" : Cond) ∈ WA := List.mem_append_left _ (List.mem_of_getElem? (i := 171) rfl)
set_option maxRecDepth 100000 in
theorem mw_172 : (.fieldLink RX11 683 "ArrayHouseModel" "meaning" "[I" : Cond) ∈ WA := List.mem_append_left _ (List.mem_of_getElem? (i := 172) rfl)
set_option maxRecDepth 100000 in
theorem mw_173 : (.fieldLink RX11 689 "ArrayHouseModel" "funcFrom" "[I" : Cond) ∈ WA := List.mem_append_left _ (List.mem_of_getElem? (i := 173) rfl)
set_option maxRecDepth 100000 in
theorem mw_174 : (.fieldLink RX11 692 "ArrayHouseModel" "funcTo" "[I" : Cond) ∈ WA := List.mem_append_left _ (List.mem_of_getElem? (i := 174) rfl)
set_option maxRecDepth 100000 in
theorem mw_175 : (.fieldLink RX11 668 "ArrayHouseModel" "textFrom" "[I" : Cond) ∈ WA := List.mem_append_left _ (List.mem_of_getElem? (i := 175) rfl)
set_option maxRecDepth 100000 in
theorem mw_176 : (.fieldLink RX11 671 "ArrayHouseModel" "textMany" "[I" : Cond) ∈ WA := List.mem_append_left _ (List.mem_of_getElem? (i := 176) rfl)
set_option maxRecDepth 100000 in
theorem mw_177 : (.fieldLink RX11 677 "ArrayHouseModel" "texts" "[B" : Cond) ∈ WA := List.mem_append_left _ (List.mem_of_getElem? (i := 177) rfl)
set_option maxRecDepth 100000 in
theorem mw_178 : (.fieldLink RX11 665 "ArrayHouseModel" "frameAround" "[I" : Cond) ∈ WA := List.mem_append_left _ (List.mem_of_getElem? (i := 178) rfl)
set_option maxRecDepth 100000 in
theorem mw_179 : (.fieldLink RX11 774 "ArrayHouseModel" "frameLeft" "[I" : Cond) ∈ WA := List.mem_append_left _ (List.mem_of_getElem? (i := 179) rfl)
set_option maxRecDepth 100000 in
theorem mw_180 : (.fieldLink RX11 777 "ArrayHouseModel" "frameRight" "[I" : Cond) ∈ WA := List.mem_append_left _ (List.mem_of_getElem? (i := 180) rfl)
set_option maxRecDepth 100000 in
theorem mw_181 : (.fieldLink RX11 837 "ArrayHouseModel" "frameSelf" "[I" : Cond) ∈ WA := List.mem_append_left _ (List.mem_of_getElem? (i := 181) rfl)
set_option maxRecDepth 100000 in
theorem mw_182 : (.fieldLink RX11 786 "ArrayHouseModel" "chosenAt" "I" : Cond) ∈ WA := List.mem_append_left _ (List.mem_of_getElem? (i := 182) rfl)
set_option maxRecDepth 100000 in
theorem mw_183 : (.fieldLink RX11 795 "ArrayHouseModel" "chosenName" "[I" : Cond) ∈ WA := List.mem_append_left _ (List.mem_of_getElem? (i := 183) rfl)
set_option maxRecDepth 100000 in
theorem mw_184 : (.fieldLink RX11 801 "ArrayHouseModel" "chosenOwn" "[I" : Cond) ∈ WA := List.mem_append_left _ (List.mem_of_getElem? (i := 184) rfl)
set_option maxRecDepth 100000 in
theorem mw_185 : (.fieldLink RX11 891 "ArrayHouseModel" "guardMask" "[I" : Cond) ∈ WA := List.mem_append_left _ (List.mem_of_getElem? (i := 185) rfl)
set_option maxRecDepth 100000 in
theorem mw_186 : (.fieldLink RX11 885 "ArrayHouseModel" "guardFrom" "[I" : Cond) ∈ WA := List.mem_append_left _ (List.mem_of_getElem? (i := 186) rfl)
set_option maxRecDepth 100000 in
theorem mw_187 : (.fieldLink RX11 888 "ArrayHouseModel" "guardTo" "[I" : Cond) ∈ WA := List.mem_append_left _ (List.mem_of_getElem? (i := 187) rfl)
set_option maxRecDepth 100000 in
theorem mw_188 : (.fieldLink RX11 913 "ArrayHouseModel" "tape" "[B" : Cond) ∈ WA := List.mem_append_left _ (List.mem_of_getElem? (i := 188) rfl)
set_option maxRecDepth 100000 in
theorem mw_189 : (.fieldLink RX11 916 "ArrayHouseModel" "atStatement" "I" : Cond) ∈ WA := List.mem_append_left _ (List.mem_of_getElem? (i := 189) rfl)
set_option maxRecDepth 100000 in
theorem mw_190 : (.fieldLink RX11 919 "ArrayHouseModel" "view" "[I" : Cond) ∈ WA := List.mem_append_left _ (List.mem_of_getElem? (i := 190) rfl)
set_option maxRecDepth 100000 in
theorem mw_191 : (.code yX11_init cX11_init 1 none : Cond) ∈ WA := List.mem_append_left _ (List.mem_of_getElem? (i := 191) rfl)
set_option maxRecDepth 100000 in
theorem mw_192 : (.methodLink RL 12 yX11_init : Cond) ∈ WA := List.mem_append_left _ (List.mem_of_getElem? (i := 192) rfl)
set_option maxRecDepth 100000 in
theorem mw_193 : (.instanceMethod yX11_init : Cond) ∈ WA := List.mem_append_left _ (List.mem_of_getElem? (i := 193) rfl)
set_option maxRecDepth 100000 in
theorem mw_194 : (.fieldLink RX10 82 "ArrayHouse" "tapeLength" "I" : Cond) ∈ WA := List.mem_append_left _ (List.mem_of_getElem? (i := 194) rfl)
set_option maxRecDepth 100000 in
theorem mw_195 : (.code yX10_append cX10_append 3 none : Cond) ∈ WA := List.mem_append_left _ (List.mem_of_getElem? (i := 195) rfl)
set_option maxRecDepth 100000 in
theorem mw_196 : (.methodLink RX10 85 yX10_append : Cond) ∈ WA := List.mem_append_left _ (List.mem_of_getElem? (i := 196) rfl)
set_option maxRecDepth 100000 in
theorem mw_197 : (.instanceMethod yX10_append : Cond) ∈ WA := List.mem_append_left _ (List.mem_of_getElem? (i := 197) rfl)
set_option maxRecDepth 100000 in
theorem mw_198 : (.selects RX10 yX10_append yX10_append : Cond) ∈ WA := List.mem_append_left _ (List.mem_of_getElem? (i := 198) rfl)
set_option maxRecDepth 100000 in
theorem mw_199 : (.code yX10_feed cX10_feed 6 (some .int) : Cond) ∈ WA := List.mem_append_left _ (List.mem_of_getElem? (i := 199) rfl)
set_option maxRecDepth 100000 in
theorem mw_200 : (.methodLink RL 13 yX10_feed : Cond) ∈ WA := List.mem_append_left _ (List.mem_of_getElem? (i := 200) rfl)
set_option maxRecDepth 100000 in
theorem mw_201 : (.instanceMethod yX10_feed : Cond) ∈ WA := List.mem_append_left _ (List.mem_of_getElem? (i := 201) rfl)
set_option maxRecDepth 100000 in
theorem mw_202 : (.selects RX10 yX10_feed yX10_feed : Cond) ∈ WA := List.mem_append_left _ (List.mem_of_getElem? (i := 202) rfl)
set_option maxRecDepth 100000 in
theorem mw_203 : (.fieldLink RX11 922 "ArrayHouseModel" "taped" "I" : Cond) ∈ WA := List.mem_append_left _ (List.mem_of_getElem? (i := 203) rfl)
set_option maxRecDepth 100000 in
theorem mw_204 : (.code yX11_feed cX11_feed 8 (some .int) : Cond) ∈ WA := List.mem_append_left _ (List.mem_of_getElem? (i := 204) rfl)
set_option maxRecDepth 100000 in
theorem mw_205 : (.methodLink RL 17 yX11_feed : Cond) ∈ WA := List.mem_append_left _ (List.mem_of_getElem? (i := 205) rfl)
set_option maxRecDepth 100000 in
theorem mw_206 : (.instanceMethod yX11_feed : Cond) ∈ WA := List.mem_append_left _ (List.mem_of_getElem? (i := 206) rfl)
set_option maxRecDepth 100000 in
theorem mw_207 : (.selects RX11 yX11_feed yX11_feed : Cond) ∈ WA := List.mem_append_left _ (List.mem_of_getElem? (i := 207) rfl)
set_option maxRecDepth 100000 in
theorem mw_208 : (.code yX10_trim cX10_trim 2 (some .int) : Cond) ∈ WA := List.mem_append_left _ (List.mem_of_getElem? (i := 208) rfl)
set_option maxRecDepth 100000 in
theorem mw_209 : (.methodLink RL 18 yX10_trim : Cond) ∈ WA := List.mem_append_left _ (List.mem_of_getElem? (i := 209) rfl)
set_option maxRecDepth 100000 in
theorem mw_210 : (.instanceMethod yX10_trim : Cond) ∈ WA := List.mem_append_left _ (List.mem_of_getElem? (i := 210) rfl)
set_option maxRecDepth 100000 in
theorem mw_211 : (.selects RX10 yX10_trim yX10_trim : Cond) ∈ WA := List.mem_append_left _ (List.mem_of_getElem? (i := 211) rfl)
set_option maxRecDepth 100000 in
theorem mw_212 : (.code yX11_trim cX11_trim 2 (some .int) : Cond) ∈ WA := List.mem_append_left _ (List.mem_of_getElem? (i := 212) rfl)
set_option maxRecDepth 100000 in
theorem mw_213 : (.methodLink RL 22 yX11_trim : Cond) ∈ WA := List.mem_append_left _ (List.mem_of_getElem? (i := 213) rfl)
set_option maxRecDepth 100000 in
theorem mw_214 : (.instanceMethod yX11_trim : Cond) ∈ WA := List.mem_append_left _ (List.mem_of_getElem? (i := 214) rfl)
set_option maxRecDepth 100000 in
theorem mw_215 : (.selects RX11 yX11_trim yX11_trim : Cond) ∈ WA := List.mem_append_left _ (List.mem_of_getElem? (i := 215) rfl)
set_option maxRecDepth 100000 in
theorem mw_216 : (.fieldLink RX10 92 "ArrayHouse" "pathLength" "I" : Cond) ∈ WA := List.mem_append_left _ (List.mem_of_getElem? (i := 216) rfl)
set_option maxRecDepth 100000 in
theorem mw_217 : (.fieldLink RX7 18 "ArrayHouse$State" "event" "I" : Cond) ∈ WA := List.mem_append_left _ (List.mem_of_getElem? (i := 217) rfl)
set_option maxRecDepth 100000 in
theorem mw_218 : (.fieldLink RX7 21 "ArrayHouse$State" "spent" "I" : Cond) ∈ WA := List.mem_append_left _ (List.mem_of_getElem? (i := 218) rfl)
set_option maxRecDepth 100000 in
theorem mw_219 : (.fieldLink RX7 24 "ArrayHouse$State" "open" "I" : Cond) ∈ WA := List.mem_append_left _ (List.mem_of_getElem? (i := 219) rfl)
set_option maxRecDepth 100000 in
theorem mw_220 : (.code yX7_begin cX7_begin 1 none : Cond) ∈ WA := List.mem_append_left _ (List.mem_of_getElem? (i := 220) rfl)
set_option maxRecDepth 100000 in
theorem mw_221 : (.instanceMethod yX7_begin : Cond) ∈ WA := List.mem_append_left _ (List.mem_of_getElem? (i := 221) rfl)
set_option maxRecDepth 100000 in
theorem mw_222 : (.selects RX7 yX7_begin yX7_begin : Cond) ∈ WA := List.mem_append_left _ (List.mem_of_getElem? (i := 222) rfl)
set_option maxRecDepth 100000 in
theorem mw_223 : (.methodLink RX1 47 Lib.Math.max.name : Cond) ∈ WA := List.mem_append_left _ (List.mem_of_getElem? (i := 223) rfl)
set_option maxRecDepth 100000 in
theorem mw_224 : (.fieldLink RX1 182 "ArrayHouse$Heap" "spareTop" "I" : Cond) ∈ WA := List.mem_append_left _ (List.mem_of_getElem? (i := 224) rfl)
set_option maxRecDepth 100000 in
theorem mw_225 : (.code yX1_unsettle cX1_unsettle 2 none : Cond) ∈ WA := List.mem_append_left _ (List.mem_of_getElem? (i := 225) rfl)
set_option maxRecDepth 100000 in
theorem mw_226 : (.instanceMethod yX1_unsettle : Cond) ∈ WA := List.mem_append_left _ (List.mem_of_getElem? (i := 226) rfl)
set_option maxRecDepth 100000 in
theorem mw_227 : (.selects RX1 yX1_unsettle yX1_unsettle : Cond) ∈ WA := List.mem_append_left _ (List.mem_of_getElem? (i := 227) rfl)
set_option maxRecDepth 100000 in
theorem mw_228 : (.code yX1_moved cX1_moved 9 (some .int) : Cond) ∈ WA := List.mem_append_left _ (List.mem_of_getElem? (i := 228) rfl)
set_option maxRecDepth 100000 in
theorem mw_229 : (.instanceMethod yX1_moved : Cond) ∈ WA := List.mem_append_left _ (List.mem_of_getElem? (i := 229) rfl)
set_option maxRecDepth 100000 in
theorem mw_230 : (.selects RX1 yX1_moved yX1_moved : Cond) ∈ WA := List.mem_append_left _ (List.mem_of_getElem? (i := 230) rfl)
set_option maxRecDepth 100000 in
theorem mw_231 : (.fieldLink RX3 76 "ArrayHouse$Places" "deepest" "I" : Cond) ∈ WA := List.mem_append_left _ (List.mem_of_getElem? (i := 231) rfl)
set_option maxRecDepth 100000 in
theorem mw_232 : (.code yX3_firstSlot cX3_firstSlot 2 (some .int) : Cond) ∈ WA := List.mem_append_left _ (List.mem_of_getElem? (i := 232) rfl)
set_option maxRecDepth 100000 in
theorem mw_233 : (.methodLink RX3 61 yX3_firstSlot : Cond) ∈ WA := List.mem_append_left _ (List.mem_of_getElem? (i := 233) rfl)
set_option maxRecDepth 100000 in
theorem mw_234 : (.instanceMethod yX3_firstSlot : Cond) ∈ WA := List.mem_append_left _ (List.mem_of_getElem? (i := 234) rfl)
set_option maxRecDepth 100000 in
theorem mw_235 : (.selects RX3 yX3_firstSlot yX3_firstSlot : Cond) ∈ WA := List.mem_append_left _ (List.mem_of_getElem? (i := 235) rfl)
set_option maxRecDepth 100000 in
theorem mw_236 : (.code yX10_peek cX10_peek 2 (some .int) : Cond) ∈ WA := List.mem_append_left _ (List.mem_of_getElem? (i := 236) rfl)
set_option maxRecDepth 100000 in
theorem mw_237 : (.static yX10_peek : Cond) ∈ WA := List.mem_append_left _ (List.mem_of_getElem? (i := 237) rfl)
set_option maxRecDepth 100000 in
theorem mw_238 : (.fieldLink RX8 35 "ArrayHouse$Text" "count" "I" : Cond) ∈ WA := List.mem_append_left _ (List.mem_of_getElem? (i := 238) rfl)
set_option maxRecDepth 100000 in
theorem mw_239 : (.code yX8_unmake cX8_unmake 4 none : Cond) ∈ WA := List.mem_append_left _ (List.mem_of_getElem? (i := 239) rfl)
set_option maxRecDepth 100000 in
theorem mw_240 : (.instanceMethod yX8_unmake : Cond) ∈ WA := List.mem_append_left _ (List.mem_of_getElem? (i := 240) rfl)
set_option maxRecDepth 100000 in
theorem mw_241 : (.selects RX8 yX8_unmake yX8_unmake : Cond) ∈ WA := List.mem_append_left _ (List.mem_of_getElem? (i := 241) rfl)
set_option maxRecDepth 100000 in
theorem mw_242 : (.methodLink RX1 185 arraycopyName : Cond) ∈ WA := List.mem_append_left _ (List.mem_of_getElem? (i := 242) rfl)
set_option maxRecDepth 100000 in
theorem mw_243 : (.native arraycopyName : Cond) ∈ WA := List.mem_append_left _ (List.mem_of_getElem? (i := 243) rfl)
set_option maxRecDepth 100000 in
theorem mw_244 : (.static arraycopyName : Cond) ∈ WA := List.mem_append_left _ (List.mem_of_getElem? (i := 244) rfl)
set_option maxRecDepth 100000 in
theorem mw_245 : (.initialized "java/lang/System" : Cond) ∈ WA := List.mem_append_left _ (List.mem_of_getElem? (i := 245) rfl)
set_option maxRecDepth 100000 in
theorem mw_246 : (.code yX1_settle cX1_settle 1 none : Cond) ∈ WA := List.mem_append_left _ (List.mem_of_getElem? (i := 246) rfl)
set_option maxRecDepth 100000 in
theorem mw_247 : (.instanceMethod yX1_settle : Cond) ∈ WA := List.mem_append_left _ (List.mem_of_getElem? (i := 247) rfl)
set_option maxRecDepth 100000 in
theorem mw_248 : (.selects RX1 yX1_settle yX1_settle : Cond) ∈ WA := List.mem_append_left _ (List.mem_of_getElem? (i := 248) rfl)
set_option maxRecDepth 100000 in
theorem mw_249 : (.code yX3_pack cX3_pack 8 (some .int) : Cond) ∈ WA := List.mem_append_left _ (List.mem_of_getElem? (i := 249) rfl)
set_option maxRecDepth 100000 in
theorem mw_250 : (.instanceMethod yX3_pack : Cond) ∈ WA := List.mem_append_left _ (List.mem_of_getElem? (i := 250) rfl)
set_option maxRecDepth 100000 in
theorem mw_251 : (.selects RX3 yX3_pack yX3_pack : Cond) ∈ WA := List.mem_append_left _ (List.mem_of_getElem? (i := 251) rfl)
set_option maxRecDepth 100000 in
theorem mw_252 : (.code yX3_meansAt cX3_meansAt 2 (some .int) : Cond) ∈ WA := List.mem_append_left _ (List.mem_of_getElem? (i := 252) rfl)
set_option maxRecDepth 100000 in
theorem mw_253 : (.instanceMethod yX3_meansAt : Cond) ∈ WA := List.mem_append_left _ (List.mem_of_getElem? (i := 253) rfl)
set_option maxRecDepth 100000 in
theorem mw_254 : (.selects RX3 yX3_meansAt yX3_meansAt : Cond) ∈ WA := List.mem_append_left _ (List.mem_of_getElem? (i := 254) rfl)
set_option maxRecDepth 100000 in
theorem mw_255 : (.code yX10_keepHouse cX10_keepHouse 4 none : Cond) ∈ WA := List.mem_append_left _ (List.mem_of_getElem? (i := 255) rfl)
set_option maxRecDepth 100000 in
theorem mw_256 : (.methodLink RX10 98 yX10_keepHouse : Cond) ∈ WA := List.mem_append_left _ (List.mem_of_getElem? (i := 256) rfl)
set_option maxRecDepth 100000 in
theorem mw_257 : (.instanceMethod yX10_keepHouse : Cond) ∈ WA := List.mem_append_left _ (List.mem_of_getElem? (i := 257) rfl)
set_option maxRecDepth 100000 in
theorem mw_258 : (.selects RX10 yX10_keepHouse yX10_keepHouse : Cond) ∈ WA := List.mem_append_left _ (List.mem_of_getElem? (i := 258) rfl)
set_option maxRecDepth 100000 in
theorem mw_259 : (.fieldLink RX8 49 "ArrayHouse$Text" "innermost" "I" : Cond) ∈ WA := List.mem_append_left _ (List.mem_of_getElem? (i := 259) rfl)
set_option maxRecDepth 100000 in
theorem mw_260 : (.fieldLink RX8 26 "ArrayHouse$Text" "length" "I" : Cond) ∈ WA := List.mem_append_left _ (List.mem_of_getElem? (i := 260) rfl)
set_option maxRecDepth 100000 in
theorem mw_261 : (.code yX8_scan cX8_scan 5 (some .int) : Cond) ∈ WA := List.mem_append_left _ (List.mem_of_getElem? (i := 261) rfl)
set_option maxRecDepth 100000 in
theorem mw_262 : (.instanceMethod yX8_scan : Cond) ∈ WA := List.mem_append_left _ (List.mem_of_getElem? (i := 262) rfl)
set_option maxRecDepth 100000 in
theorem mw_263 : (.selects RX8 yX8_scan yX8_scan : Cond) ∈ WA := List.mem_append_left _ (List.mem_of_getElem? (i := 263) rfl)
set_option maxRecDepth 100000 in
theorem mw_264 : (.code yX8_firstOf cX8_firstOf 7 (some .int) : Cond) ∈ WA := List.mem_append_left _ (List.mem_of_getElem? (i := 264) rfl)
set_option maxRecDepth 100000 in
theorem mw_265 : (.methodLink RX8 151 yX8_firstOf : Cond) ∈ WA := List.mem_append_left _ (List.mem_of_getElem? (i := 265) rfl)
set_option maxRecDepth 100000 in
theorem mw_266 : (.instanceMethod yX8_firstOf : Cond) ∈ WA := List.mem_append_left _ (List.mem_of_getElem? (i := 266) rfl)
set_option maxRecDepth 100000 in
theorem mw_267 : (.selects RX8 yX8_firstOf yX8_firstOf : Cond) ∈ WA := List.mem_append_left _ (List.mem_of_getElem? (i := 267) rfl)
set_option maxRecDepth 100000 in
theorem mw_268 : (.code yX8_statementEnd cX8_statementEnd 3 (some .int) : Cond) ∈ WA := List.mem_append_left _ (List.mem_of_getElem? (i := 268) rfl)
set_option maxRecDepth 100000 in
theorem mw_269 : (.instanceMethod yX8_statementEnd : Cond) ∈ WA := List.mem_append_left _ (List.mem_of_getElem? (i := 269) rfl)
set_option maxRecDepth 100000 in
theorem mw_270 : (.selects RX8 yX8_statementEnd yX8_statementEnd : Cond) ∈ WA := List.mem_append_left _ (List.mem_of_getElem? (i := 270) rfl)
set_option maxRecDepth 100000 in
theorem mw_271 : (.code yX1_size cX1_size 2 (some .int) : Cond) ∈ WA := List.mem_append_left _ (List.mem_of_getElem? (i := 271) rfl)
set_option maxRecDepth 100000 in
theorem mw_272 : (.instanceMethod yX1_size : Cond) ∈ WA := List.mem_append_left _ (List.mem_of_getElem? (i := 272) rfl)
set_option maxRecDepth 100000 in
theorem mw_273 : (.selects RX1 yX1_size yX1_size : Cond) ∈ WA := List.mem_append_left _ (List.mem_of_getElem? (i := 273) rfl)
set_option maxRecDepth 100000 in
theorem mw_274 : (.code yX3_keep cX3_keep 3 (some .int) : Cond) ∈ WA := List.mem_append_left _ (List.mem_of_getElem? (i := 274) rfl)
set_option maxRecDepth 100000 in
theorem mw_275 : (.instanceMethod yX3_keep : Cond) ∈ WA := List.mem_append_left _ (List.mem_of_getElem? (i := 275) rfl)
set_option maxRecDepth 100000 in
theorem mw_276 : (.selects RX3 yX3_keep yX3_keep : Cond) ∈ WA := List.mem_append_left _ (List.mem_of_getElem? (i := 276) rfl)
set_option maxRecDepth 100000 in
theorem mw_277 : (.code yX10_statements cX10_statements 8 none : Cond) ∈ WA := List.mem_append_left _ (List.mem_of_getElem? (i := 277) rfl)
set_option maxRecDepth 100000 in
theorem mw_278 : (.methodLink RX10 112 yX10_statements : Cond) ∈ WA := List.mem_append_left _ (List.mem_of_getElem? (i := 278) rfl)
set_option maxRecDepth 100000 in
theorem mw_279 : (.instanceMethod yX10_statements : Cond) ∈ WA := List.mem_append_left _ (List.mem_of_getElem? (i := 279) rfl)
set_option maxRecDepth 100000 in
theorem mw_280 : (.selects RX10 yX10_statements yX10_statements : Cond) ∈ WA := List.mem_append_left _ (List.mem_of_getElem? (i := 280) rfl)
set_option maxRecDepth 100000 in
theorem mw_281 : (.code yX10_run cX10_run 4 (some .int) : Cond) ∈ WA := List.mem_append_left _ (List.mem_of_getElem? (i := 281) rfl)
set_option maxRecDepth 100000 in
theorem mw_282 : (.methodLink RL 23 yX10_run : Cond) ∈ WA := List.mem_append_left _ (List.mem_of_getElem? (i := 282) rfl)
set_option maxRecDepth 100000 in
theorem mw_283 : (.instanceMethod yX10_run : Cond) ∈ WA := List.mem_append_left _ (List.mem_of_getElem? (i := 283) rfl)
set_option maxRecDepth 100000 in
theorem mw_284 : (.selects RX10 yX10_run yX10_run : Cond) ∈ WA := List.mem_append_left _ (List.mem_of_getElem? (i := 284) rfl)
set_option maxRecDepth 100000 in
theorem mw_285 : (.fieldLink RX11 1 "ArrayHouseModel" "event" "I" : Cond) ∈ WA := List.mem_append_left _ (List.mem_of_getElem? (i := 285) rfl)
set_option maxRecDepth 100000 in
theorem mw_286 : (.fieldLink RX11 7 "ArrayHouseModel" "steps" "I" : Cond) ∈ WA := List.mem_append_left _ (List.mem_of_getElem? (i := 286) rfl)
set_option maxRecDepth 100000 in
theorem mw_287 : (.fieldLink RX11 439 "ArrayHouseModel" "open" "I" : Cond) ∈ WA := List.mem_append_left _ (List.mem_of_getElem? (i := 287) rfl)
set_option maxRecDepth 100000 in
theorem mw_288 : (.fieldLink RX11 527 "ArrayHouseModel" "waits" "I" : Cond) ∈ WA := List.mem_append_left _ (List.mem_of_getElem? (i := 288) rfl)
set_option maxRecDepth 100000 in
theorem mw_289 : (.fieldLink RX11 873 "ArrayHouseModel" "guards" "I" : Cond) ∈ WA := List.mem_append_left _ (List.mem_of_getElem? (i := 289) rfl)
set_option maxRecDepth 100000 in
theorem mw_290 : (.fieldLink RX11 798 "ArrayHouseModel" "choosing" "I" : Cond) ∈ WA := List.mem_append_left _ (List.mem_of_getElem? (i := 290) rfl)
set_option maxRecDepth 100000 in
theorem mw_291 : (.fieldLink RX11 562 "ArrayHouseModel" "tokens" "I" : Cond) ∈ WA := List.mem_append_left _ (List.mem_of_getElem? (i := 291) rfl)
set_option maxRecDepth 100000 in
theorem mw_292 : (.fieldLink RX11 330 "ArrayHouseModel" "saidMany" "I" : Cond) ∈ WA := List.mem_append_left _ (List.mem_of_getElem? (i := 292) rfl)
set_option maxRecDepth 100000 in
theorem mw_293 : (.fieldLink RX11 925 "ArrayHouseModel" "views" "I" : Cond) ∈ WA := List.mem_append_left _ (List.mem_of_getElem? (i := 293) rfl)
set_option maxRecDepth 100000 in
theorem mw_294 : (.fieldLink RX11 695 "ArrayHouseModel" "byteTop" "I" : Cond) ∈ WA := List.mem_append_left _ (List.mem_of_getElem? (i := 294) rfl)
set_option maxRecDepth 100000 in
theorem mw_295 : (.fieldLink RX11 577 "ArrayHouseModel" "at" "I" : Cond) ∈ WA := List.mem_append_left _ (List.mem_of_getElem? (i := 295) rfl)
set_option maxRecDepth 100000 in
theorem mw_296 : (.fieldLink RX11 553 "ArrayHouseModel" "end" "I" : Cond) ∈ WA := List.mem_append_left _ (List.mem_of_getElem? (i := 296) rfl)
set_option maxRecDepth 100000 in
theorem mw_297 : (.fieldLink RX11 586 "ArrayHouseModel" "fault" "I" : Cond) ∈ WA := List.mem_append_left _ (List.mem_of_getElem? (i := 297) rfl)
set_option maxRecDepth 100000 in
theorem mw_298 : (.code yX11_byteOf cX11_byteOf 2 (some .int) : Cond) ∈ WA := List.mem_append_left _ (List.mem_of_getElem? (i := 298) rfl)
set_option maxRecDepth 100000 in
theorem mw_299 : (.methodLink RX11 589 yX11_byteOf : Cond) ∈ WA := List.mem_append_left _ (List.mem_of_getElem? (i := 299) rfl)
set_option maxRecDepth 100000 in
theorem mw_300 : (.instanceMethod yX11_byteOf : Cond) ∈ WA := List.mem_append_left _ (List.mem_of_getElem? (i := 300) rfl)
set_option maxRecDepth 100000 in
theorem mw_301 : (.selects RX11 yX11_byteOf yX11_byteOf : Cond) ∈ WA := List.mem_append_left _ (List.mem_of_getElem? (i := 301) rfl)
set_option maxRecDepth 100000 in
theorem mw_302 : (.code yX11_scan cX11_scan 7 (some .int) : Cond) ∈ WA := List.mem_append_left _ (List.mem_of_getElem? (i := 302) rfl)
set_option maxRecDepth 100000 in
theorem mw_303 : (.methodLink RX11 698 yX11_scan : Cond) ∈ WA := List.mem_append_left _ (List.mem_of_getElem? (i := 303) rfl)
set_option maxRecDepth 100000 in
theorem mw_304 : (.instanceMethod yX11_scan : Cond) ∈ WA := List.mem_append_left _ (List.mem_of_getElem? (i := 304) rfl)
set_option maxRecDepth 100000 in
theorem mw_305 : (.selects RX11 yX11_scan yX11_scan : Cond) ∈ WA := List.mem_append_left _ (List.mem_of_getElem? (i := 305) rfl)
set_option maxRecDepth 100000 in
theorem mw_306 : (.code yX11_statementEnd cX11_statementEnd 4 (some .int) : Cond) ∈ WA := List.mem_append_left _ (List.mem_of_getElem? (i := 306) rfl)
set_option maxRecDepth 100000 in
theorem mw_307 : (.methodLink RX11 897 yX11_statementEnd : Cond) ∈ WA := List.mem_append_left _ (List.mem_of_getElem? (i := 307) rfl)
set_option maxRecDepth 100000 in
theorem mw_308 : (.instanceMethod yX11_statementEnd : Cond) ∈ WA := List.mem_append_left _ (List.mem_of_getElem? (i := 308) rfl)
set_option maxRecDepth 100000 in
theorem mw_309 : (.selects RX11 yX11_statementEnd yX11_statementEnd : Cond) ∈ WA := List.mem_append_left _ (List.mem_of_getElem? (i := 309) rfl)
set_option maxRecDepth 100000 in
theorem mw_310 : (.fieldLink RX11 870 "ArrayHouseModel" "frames" "I" : Cond) ∈ WA := List.mem_append_left _ (List.mem_of_getElem? (i := 310) rfl)
set_option maxRecDepth 100000 in
theorem mw_311 : (.code yX11_unframe cX11_unframe 3 none : Cond) ∈ WA := List.mem_append_left _ (List.mem_of_getElem? (i := 311) rfl)
set_option maxRecDepth 100000 in
theorem mw_312 : (.methodLink RX11 882 yX11_unframe : Cond) ∈ WA := List.mem_append_left _ (List.mem_of_getElem? (i := 312) rfl)
set_option maxRecDepth 100000 in
theorem mw_313 : (.instanceMethod yX11_unframe : Cond) ∈ WA := List.mem_append_left _ (List.mem_of_getElem? (i := 313) rfl)
set_option maxRecDepth 100000 in
theorem mw_314 : (.selects RX11 yX11_unframe yX11_unframe : Cond) ∈ WA := List.mem_append_left _ (List.mem_of_getElem? (i := 314) rfl)
set_option maxRecDepth 100000 in
theorem mw_315 : (.fieldLink RX11 934 "ArrayHouseModel" "keepTop" "I" : Cond) ∈ WA := List.mem_append_left _ (List.mem_of_getElem? (i := 315) rfl)
set_option maxRecDepth 100000 in
theorem mw_316 : (.code yX11_settle cX11_settle 2 none : Cond) ∈ WA := List.mem_append_left _ (List.mem_of_getElem? (i := 316) rfl)
set_option maxRecDepth 100000 in
theorem mw_317 : (.methodLink RX11 931 yX11_settle : Cond) ∈ WA := List.mem_append_left _ (List.mem_of_getElem? (i := 317) rfl)
set_option maxRecDepth 100000 in
theorem mw_318 : (.instanceMethod yX11_settle : Cond) ∈ WA := List.mem_append_left _ (List.mem_of_getElem? (i := 318) rfl)
set_option maxRecDepth 100000 in
theorem mw_319 : (.selects RX11 yX11_settle yX11_settle : Cond) ∈ WA := List.mem_append_left _ (List.mem_of_getElem? (i := 319) rfl)
set_option maxRecDepth 100000 in
theorem mw_320 : (.code yX11_run cX11_run 5 (some .int) : Cond) ∈ WA := List.mem_append_left _ (List.mem_of_getElem? (i := 320) rfl)
set_option maxRecDepth 100000 in
theorem mw_321 : (.methodLink RL 27 yX11_run : Cond) ∈ WA := List.mem_append_left _ (List.mem_of_getElem? (i := 321) rfl)
set_option maxRecDepth 100000 in
theorem mw_322 : (.instanceMethod yX11_run : Cond) ∈ WA := List.mem_append_left _ (List.mem_of_getElem? (i := 322) rfl)
set_option maxRecDepth 100000 in
theorem mw_323 : (.selects RX11 yX11_run yX11_run : Cond) ∈ WA := List.mem_append_left _ (List.mem_of_getElem? (i := 323) rfl)
set_option maxRecDepth 100000 in
theorem mw_324 : (.code yX10_at cX10_at 1 (some .int) : Cond) ∈ WA := List.mem_append_left _ (List.mem_of_getElem? (i := 324) rfl)
set_option maxRecDepth 100000 in
theorem mw_325 : (.methodLink RL 28 yX10_at : Cond) ∈ WA := List.mem_append_left _ (List.mem_of_getElem? (i := 325) rfl)
set_option maxRecDepth 100000 in
theorem mw_326 : (.instanceMethod yX10_at : Cond) ∈ WA := List.mem_append_left _ (List.mem_of_getElem? (i := 326) rfl)
set_option maxRecDepth 100000 in
theorem mw_327 : (.selects RX10 yX10_at yX10_at : Cond) ∈ WA := List.mem_append_left _ (List.mem_of_getElem? (i := 327) rfl)
set_option maxRecDepth 100000 in
theorem mw_328 : (.code yX11_at cX11_at 1 (some .int) : Cond) ∈ WA := List.mem_append_left _ (List.mem_of_getElem? (i := 328) rfl)
set_option maxRecDepth 100000 in
theorem mw_329 : (.methodLink RL 31 yX11_at : Cond) ∈ WA := List.mem_append_left _ (List.mem_of_getElem? (i := 329) rfl)
set_option maxRecDepth 100000 in
theorem mw_330 : (.instanceMethod yX11_at : Cond) ∈ WA := List.mem_append_left _ (List.mem_of_getElem? (i := 330) rfl)
set_option maxRecDepth 100000 in
theorem mw_331 : (.selects RX11 yX11_at yX11_at : Cond) ∈ WA := List.mem_append_left _ (List.mem_of_getElem? (i := 331) rfl)
set_option maxRecDepth 100000 in
theorem mw_332 : (.code yX10_steps cX10_steps 1 (some .int) : Cond) ∈ WA := List.mem_append_left _ (List.mem_of_getElem? (i := 332) rfl)
set_option maxRecDepth 100000 in
theorem mw_333 : (.methodLink RL 32 yX10_steps : Cond) ∈ WA := List.mem_append_left _ (List.mem_of_getElem? (i := 333) rfl)
set_option maxRecDepth 100000 in
theorem mw_334 : (.instanceMethod yX10_steps : Cond) ∈ WA := List.mem_append_left _ (List.mem_of_getElem? (i := 334) rfl)
set_option maxRecDepth 100000 in
theorem mw_335 : (.selects RX10 yX10_steps yX10_steps : Cond) ∈ WA := List.mem_append_left _ (List.mem_of_getElem? (i := 335) rfl)
set_option maxRecDepth 100000 in
theorem mw_336 : (.code yX11_steps cX11_steps 1 (some .int) : Cond) ∈ WA := List.mem_append_left _ (List.mem_of_getElem? (i := 336) rfl)
set_option maxRecDepth 100000 in
theorem mw_337 : (.methodLink RL 35 yX11_steps : Cond) ∈ WA := List.mem_append_left _ (List.mem_of_getElem? (i := 337) rfl)
set_option maxRecDepth 100000 in
theorem mw_338 : (.instanceMethod yX11_steps : Cond) ∈ WA := List.mem_append_left _ (List.mem_of_getElem? (i := 338) rfl)
set_option maxRecDepth 100000 in
theorem mw_339 : (.selects RX11 yX11_steps yX11_steps : Cond) ∈ WA := List.mem_append_left _ (List.mem_of_getElem? (i := 339) rfl)
set_option maxRecDepth 100000 in
theorem mw_340 : (.code yX10_shown cX10_shown 1 (some .int) : Cond) ∈ WA := List.mem_append_left _ (List.mem_of_getElem? (i := 340) rfl)
set_option maxRecDepth 100000 in
theorem mw_341 : (.methodLink RL 36 yX10_shown : Cond) ∈ WA := List.mem_append_left _ (List.mem_of_getElem? (i := 341) rfl)
set_option maxRecDepth 100000 in
theorem mw_342 : (.instanceMethod yX10_shown : Cond) ∈ WA := List.mem_append_left _ (List.mem_of_getElem? (i := 342) rfl)
set_option maxRecDepth 100000 in
theorem mw_343 : (.selects RX10 yX10_shown yX10_shown : Cond) ∈ WA := List.mem_append_left _ (List.mem_of_getElem? (i := 343) rfl)
set_option maxRecDepth 100000 in
theorem mw_344 : (.code yX11_shown cX11_shown 1 (some .int) : Cond) ∈ WA := List.mem_append_left _ (List.mem_of_getElem? (i := 344) rfl)
set_option maxRecDepth 100000 in
theorem mw_345 : (.methodLink RL 39 yX11_shown : Cond) ∈ WA := List.mem_append_left _ (List.mem_of_getElem? (i := 345) rfl)
set_option maxRecDepth 100000 in
theorem mw_346 : (.instanceMethod yX11_shown : Cond) ∈ WA := List.mem_append_left _ (List.mem_of_getElem? (i := 346) rfl)
set_option maxRecDepth 100000 in
theorem mw_347 : (.selects RX11 yX11_shown yX11_shown : Cond) ∈ WA := List.mem_append_left _ (List.mem_of_getElem? (i := 347) rfl)
set_option maxRecDepth 100000 in
theorem mw_348 : (.code yX10_byteAt cX10_byteAt 2 (some .int) : Cond) ∈ WA := List.mem_append_left _ (List.mem_of_getElem? (i := 348) rfl)
set_option maxRecDepth 100000 in
theorem mw_349 : (.methodLink RL 40 yX10_byteAt : Cond) ∈ WA := List.mem_append_left _ (List.mem_of_getElem? (i := 349) rfl)
set_option maxRecDepth 100000 in
theorem mw_350 : (.instanceMethod yX10_byteAt : Cond) ∈ WA := List.mem_append_left _ (List.mem_of_getElem? (i := 350) rfl)
set_option maxRecDepth 100000 in
theorem mw_351 : (.selects RX10 yX10_byteAt yX10_byteAt : Cond) ∈ WA := List.mem_append_left _ (List.mem_of_getElem? (i := 351) rfl)
set_option maxRecDepth 100000 in
theorem mw_352 : (.code yX11_byteAt cX11_byteAt 2 (some .int) : Cond) ∈ WA := List.mem_append_left _ (List.mem_of_getElem? (i := 352) rfl)
set_option maxRecDepth 100000 in
theorem mw_353 : (.methodLink RL 43 yX11_byteAt : Cond) ∈ WA := List.mem_append_left _ (List.mem_of_getElem? (i := 353) rfl)
set_option maxRecDepth 100000 in
theorem mw_354 : (.instanceMethod yX11_byteAt : Cond) ∈ WA := List.mem_append_left _ (List.mem_of_getElem? (i := 354) rfl)
set_option maxRecDepth 100000 in
theorem mw_355 : (.selects RX11 yX11_byteAt yX11_byteAt : Cond) ∈ WA := List.mem_append_left _ (List.mem_of_getElem? (i := 355) rfl)
set_option maxRecDepth 100000 in
theorem mw_356 : (.code yX10_nameOnTape cX10_nameOnTape 3 (some .int) : Cond) ∈ WA := List.mem_append_left _ (List.mem_of_getElem? (i := 356) rfl)
set_option maxRecDepth 100000 in
theorem mw_357 : (.methodLink RX10 193 yX10_nameOnTape : Cond) ∈ WA := List.mem_append_left _ (List.mem_of_getElem? (i := 357) rfl)
set_option maxRecDepth 100000 in
theorem mw_358 : (.instanceMethod yX10_nameOnTape : Cond) ∈ WA := List.mem_append_left _ (List.mem_of_getElem? (i := 358) rfl)
set_option maxRecDepth 100000 in
theorem mw_359 : (.selects RX10 yX10_nameOnTape yX10_nameOnTape : Cond) ∈ WA := List.mem_append_left _ (List.mem_of_getElem? (i := 359) rfl)
set_option maxRecDepth 100000 in
theorem mw_360 : (.code yX10_view cX10_view 2 (some .int) : Cond) ∈ WA := List.mem_append_left _ (List.mem_of_getElem? (i := 360) rfl)
set_option maxRecDepth 100000 in
theorem mw_361 : (.methodLink RL 44 yX10_view : Cond) ∈ WA := List.mem_append_left _ (List.mem_of_getElem? (i := 361) rfl)
set_option maxRecDepth 100000 in
theorem mw_362 : (.instanceMethod yX10_view : Cond) ∈ WA := List.mem_append_left _ (List.mem_of_getElem? (i := 362) rfl)
set_option maxRecDepth 100000 in
theorem mw_363 : (.selects RX10 yX10_view yX10_view : Cond) ∈ WA := List.mem_append_left _ (List.mem_of_getElem? (i := 363) rfl)
set_option maxRecDepth 100000 in
theorem mw_364 : (.code yX11_taken_ cX11_taken_ 4 (some .int) : Cond) ∈ WA := List.mem_append_left _ (List.mem_of_getElem? (i := 364) rfl)
set_option maxRecDepth 100000 in
theorem mw_365 : (.methodLink RX11 940 yX11_taken_ : Cond) ∈ WA := List.mem_append_left _ (List.mem_of_getElem? (i := 365) rfl)
set_option maxRecDepth 100000 in
theorem mw_366 : (.instanceMethod yX11_taken_ : Cond) ∈ WA := List.mem_append_left _ (List.mem_of_getElem? (i := 366) rfl)
set_option maxRecDepth 100000 in
theorem mw_367 : (.selects RX11 yX11_taken_ yX11_taken_ : Cond) ∈ WA := List.mem_append_left _ (List.mem_of_getElem? (i := 367) rfl)
set_option maxRecDepth 100000 in
theorem mw_368 : (.code yX11_view cX11_view 2 (some .int) : Cond) ∈ WA := List.mem_append_left _ (List.mem_of_getElem? (i := 368) rfl)
set_option maxRecDepth 100000 in
theorem mw_369 : (.methodLink RL 47 yX11_view : Cond) ∈ WA := List.mem_append_left _ (List.mem_of_getElem? (i := 369) rfl)
set_option maxRecDepth 100000 in
theorem mw_370 : (.instanceMethod yX11_view : Cond) ∈ WA := List.mem_append_left _ (List.mem_of_getElem? (i := 370) rfl)
set_option maxRecDepth 100000 in
theorem mw_371 : (.selects RX11 yX11_view yX11_view : Cond) ∈ WA := List.mem_append_left _ (List.mem_of_getElem? (i := 371) rfl)
set_option maxRecDepth 100000 in
theorem mw_372 : (.code yX10_viewed cX10_viewed 1 (some .int) : Cond) ∈ WA := List.mem_append_left _ (List.mem_of_getElem? (i := 372) rfl)
set_option maxRecDepth 100000 in
theorem mw_373 : (.methodLink RX10 213 yX10_viewed : Cond) ∈ WA := List.mem_append_left _ (List.mem_of_getElem? (i := 373) rfl)
set_option maxRecDepth 100000 in
theorem mw_374 : (.instanceMethod yX10_viewed : Cond) ∈ WA := List.mem_append_left _ (List.mem_of_getElem? (i := 374) rfl)
set_option maxRecDepth 100000 in
theorem mw_375 : (.selects RX10 yX10_viewed yX10_viewed : Cond) ∈ WA := List.mem_append_left _ (List.mem_of_getElem? (i := 375) rfl)
set_option maxRecDepth 100000 in
theorem mw_376 : (.code yX10_into cX10_into 3 (some .int) : Cond) ∈ WA := List.mem_append_left _ (List.mem_of_getElem? (i := 376) rfl)
set_option maxRecDepth 100000 in
theorem mw_377 : (.methodLink RL 48 yX10_into : Cond) ∈ WA := List.mem_append_left _ (List.mem_of_getElem? (i := 377) rfl)
set_option maxRecDepth 100000 in
theorem mw_378 : (.instanceMethod yX10_into : Cond) ∈ WA := List.mem_append_left _ (List.mem_of_getElem? (i := 378) rfl)
set_option maxRecDepth 100000 in
theorem mw_379 : (.selects RX10 yX10_into yX10_into : Cond) ∈ WA := List.mem_append_left _ (List.mem_of_getElem? (i := 379) rfl)
set_option maxRecDepth 100000 in
theorem mw_380 : (.code yX11_into cX11_into 2 (some .int) : Cond) ∈ WA := List.mem_append_left _ (List.mem_of_getElem? (i := 380) rfl)
set_option maxRecDepth 100000 in
theorem mw_381 : (.methodLink RL 51 yX11_into : Cond) ∈ WA := List.mem_append_left _ (List.mem_of_getElem? (i := 381) rfl)
set_option maxRecDepth 100000 in
theorem mw_382 : (.instanceMethod yX11_into : Cond) ∈ WA := List.mem_append_left _ (List.mem_of_getElem? (i := 382) rfl)
set_option maxRecDepth 100000 in
theorem mw_383 : (.selects RX11 yX11_into yX11_into : Cond) ∈ WA := List.mem_append_left _ (List.mem_of_getElem? (i := 383) rfl)
set_option maxRecDepth 100000 in
theorem mw_384 : (.code yX10_back cX10_back 1 (some .int) : Cond) ∈ WA := List.mem_append_left _ (List.mem_of_getElem? (i := 384) rfl)
set_option maxRecDepth 100000 in
theorem mw_385 : (.methodLink RL 52 yX10_back : Cond) ∈ WA := List.mem_append_left _ (List.mem_of_getElem? (i := 385) rfl)
set_option maxRecDepth 100000 in
theorem mw_386 : (.instanceMethod yX10_back : Cond) ∈ WA := List.mem_append_left _ (List.mem_of_getElem? (i := 386) rfl)
set_option maxRecDepth 100000 in
theorem mw_387 : (.selects RX10 yX10_back yX10_back : Cond) ∈ WA := List.mem_append_left _ (List.mem_of_getElem? (i := 387) rfl)
set_option maxRecDepth 100000 in
theorem mw_388 : (.code yX11_back cX11_back 1 (some .int) : Cond) ∈ WA := List.mem_append_left _ (List.mem_of_getElem? (i := 388) rfl)
set_option maxRecDepth 100000 in
theorem mw_389 : (.methodLink RL 55 yX11_back : Cond) ∈ WA := List.mem_append_left _ (List.mem_of_getElem? (i := 389) rfl)
set_option maxRecDepth 100000 in
theorem mw_390 : (.instanceMethod yX11_back : Cond) ∈ WA := List.mem_append_left _ (List.mem_of_getElem? (i := 390) rfl)
set_option maxRecDepth 100000 in
theorem mw_391 : (.selects RX11 yX11_back yX11_back : Cond) ∈ WA := List.mem_append_left _ (List.mem_of_getElem? (i := 391) rfl)
set_option maxRecDepth 100000 in
theorem mw_392 : (.code yX10_about cX10_about 3 (some .int) : Cond) ∈ WA := List.mem_append_left _ (List.mem_of_getElem? (i := 392) rfl)
set_option maxRecDepth 100000 in
theorem mw_393 : (.methodLink RL 56 yX10_about : Cond) ∈ WA := List.mem_append_left _ (List.mem_of_getElem? (i := 393) rfl)
set_option maxRecDepth 100000 in
theorem mw_394 : (.instanceMethod yX10_about : Cond) ∈ WA := List.mem_append_left _ (List.mem_of_getElem? (i := 394) rfl)
set_option maxRecDepth 100000 in
theorem mw_395 : (.selects RX10 yX10_about yX10_about : Cond) ∈ WA := List.mem_append_left _ (List.mem_of_getElem? (i := 395) rfl)
set_option maxRecDepth 100000 in
theorem mw_396 : (.code yX11_about cX11_about 2 (some .int) : Cond) ∈ WA := List.mem_append_left _ (List.mem_of_getElem? (i := 396) rfl)
set_option maxRecDepth 100000 in
theorem mw_397 : (.methodLink RL 59 yX11_about : Cond) ∈ WA := List.mem_append_left _ (List.mem_of_getElem? (i := 397) rfl)
set_option maxRecDepth 100000 in
theorem mw_398 : (.instanceMethod yX11_about : Cond) ∈ WA := List.mem_append_left _ (List.mem_of_getElem? (i := 398) rfl)
set_option maxRecDepth 100000 in
theorem mw_399 : (.selects RX11 yX11_about yX11_about : Cond) ∈ WA := List.mem_append_left _ (List.mem_of_getElem? (i := 399) rfl)
set_option maxRecDepth 100000 in
theorem mw_400 : (.code yX10_extent cX10_extent 3 (some .int) : Cond) ∈ WA := List.mem_append_left _ (List.mem_of_getElem? (i := 400) rfl)
set_option maxRecDepth 100000 in
theorem mw_401 : (.methodLink RL 60 yX10_extent : Cond) ∈ WA := List.mem_append_left _ (List.mem_of_getElem? (i := 401) rfl)
set_option maxRecDepth 100000 in
theorem mw_402 : (.instanceMethod yX10_extent : Cond) ∈ WA := List.mem_append_left _ (List.mem_of_getElem? (i := 402) rfl)
set_option maxRecDepth 100000 in
theorem mw_403 : (.selects RX10 yX10_extent yX10_extent : Cond) ∈ WA := List.mem_append_left _ (List.mem_of_getElem? (i := 403) rfl)
set_option maxRecDepth 100000 in
theorem mw_404 : (.code yX11_extent_ cX11_extent_ 2 (some .int) : Cond) ∈ WA := List.mem_append_left _ (List.mem_of_getElem? (i := 404) rfl)
set_option maxRecDepth 100000 in
theorem mw_405 : (.methodLink RL 63 yX11_extent_ : Cond) ∈ WA := List.mem_append_left _ (List.mem_of_getElem? (i := 405) rfl)
set_option maxRecDepth 100000 in
theorem mw_406 : (.instanceMethod yX11_extent_ : Cond) ∈ WA := List.mem_append_left _ (List.mem_of_getElem? (i := 406) rfl)
set_option maxRecDepth 100000 in
theorem mw_407 : (.selects RX11 yX11_extent_ yX11_extent_ : Cond) ∈ WA := List.mem_append_left _ (List.mem_of_getElem? (i := 407) rfl)
set_option maxRecDepth 100000 in
theorem mw_408 : (.code yX10_kind cX10_kind 4 (some .int) : Cond) ∈ WA := List.mem_append_left _ (List.mem_of_getElem? (i := 408) rfl)
set_option maxRecDepth 100000 in
theorem mw_409 : (.methodLink RL 64 yX10_kind : Cond) ∈ WA := List.mem_append_left _ (List.mem_of_getElem? (i := 409) rfl)
set_option maxRecDepth 100000 in
theorem mw_410 : (.instanceMethod yX10_kind : Cond) ∈ WA := List.mem_append_left _ (List.mem_of_getElem? (i := 410) rfl)
set_option maxRecDepth 100000 in
theorem mw_411 : (.selects RX10 yX10_kind yX10_kind : Cond) ∈ WA := List.mem_append_left _ (List.mem_of_getElem? (i := 411) rfl)
set_option maxRecDepth 100000 in
theorem mw_412 : (.code yX11_viewed cX11_viewed 2 (some .boolean) : Cond) ∈ WA := List.mem_append_left _ (List.mem_of_getElem? (i := 412) rfl)
set_option maxRecDepth 100000 in
theorem mw_413 : (.methodLink RX11 949 yX11_viewed : Cond) ∈ WA := List.mem_append_left _ (List.mem_of_getElem? (i := 413) rfl)
set_option maxRecDepth 100000 in
theorem mw_414 : (.instanceMethod yX11_viewed : Cond) ∈ WA := List.mem_append_left _ (List.mem_of_getElem? (i := 414) rfl)
set_option maxRecDepth 100000 in
theorem mw_415 : (.selects RX11 yX11_viewed yX11_viewed : Cond) ∈ WA := List.mem_append_left _ (List.mem_of_getElem? (i := 415) rfl)
set_option maxRecDepth 100000 in
theorem mw_416 : (.code yX11_kind cX11_kind 2 (some .int) : Cond) ∈ WA := List.mem_append_left _ (List.mem_of_getElem? (i := 416) rfl)
set_option maxRecDepth 100000 in
theorem mw_417 : (.methodLink RL 67 yX11_kind : Cond) ∈ WA := List.mem_append_left _ (List.mem_of_getElem? (i := 417) rfl)
set_option maxRecDepth 100000 in
theorem mw_418 : (.instanceMethod yX11_kind : Cond) ∈ WA := List.mem_append_left _ (List.mem_of_getElem? (i := 418) rfl)
set_option maxRecDepth 100000 in
theorem mw_419 : (.selects RX11 yX11_kind yX11_kind : Cond) ∈ WA := List.mem_append_left _ (List.mem_of_getElem? (i := 419) rfl)
set_option maxRecDepth 100000 in
theorem mw_420 : (.code yX10_number cX10_number 7 (some .int) : Cond) ∈ WA := List.mem_append_left _ (List.mem_of_getElem? (i := 420) rfl)
set_option maxRecDepth 100000 in
theorem mw_421 : (.methodLink RL 68 yX10_number : Cond) ∈ WA := List.mem_append_left _ (List.mem_of_getElem? (i := 421) rfl)
set_option maxRecDepth 100000 in
theorem mw_422 : (.instanceMethod yX10_number : Cond) ∈ WA := List.mem_append_left _ (List.mem_of_getElem? (i := 422) rfl)
set_option maxRecDepth 100000 in
theorem mw_423 : (.selects RX10 yX10_number yX10_number : Cond) ∈ WA := List.mem_append_left _ (List.mem_of_getElem? (i := 423) rfl)
set_option maxRecDepth 100000 in
theorem mw_424 : (.code yX11_number_ cX11_number_ 3 (some .int) : Cond) ∈ WA := List.mem_append_left _ (List.mem_of_getElem? (i := 424) rfl)
set_option maxRecDepth 100000 in
theorem mw_425 : (.methodLink RL 72 yX11_number_ : Cond) ∈ WA := List.mem_append_left _ (List.mem_of_getElem? (i := 425) rfl)
set_option maxRecDepth 100000 in
theorem mw_426 : (.instanceMethod yX11_number_ : Cond) ∈ WA := List.mem_append_left _ (List.mem_of_getElem? (i := 426) rfl)
set_option maxRecDepth 100000 in
theorem mw_427 : (.selects RX11 yX11_number_ yX11_number_ : Cond) ∈ WA := List.mem_append_left _ (List.mem_of_getElem? (i := 427) rfl)
set_option maxRecDepth 100000 in
theorem mw_428 : (.code yX10_meaning cX10_meaning 4 (some .int) : Cond) ∈ WA := List.mem_append_left _ (List.mem_of_getElem? (i := 428) rfl)
set_option maxRecDepth 100000 in
theorem mw_429 : (.methodLink RX10 241 yX10_meaning : Cond) ∈ WA := List.mem_append_left _ (List.mem_of_getElem? (i := 429) rfl)
set_option maxRecDepth 100000 in
theorem mw_430 : (.instanceMethod yX10_meaning : Cond) ∈ WA := List.mem_append_left _ (List.mem_of_getElem? (i := 430) rfl)
set_option maxRecDepth 100000 in
theorem mw_431 : (.selects RX10 yX10_meaning yX10_meaning : Cond) ∈ WA := List.mem_append_left _ (List.mem_of_getElem? (i := 431) rfl)
set_option maxRecDepth 100000 in
theorem mw_432 : (.code yX4_houseBytes cX4_houseBytes 3 (some .int) : Cond) ∈ WA := List.mem_append_left _ (List.mem_of_getElem? (i := 432) rfl)
set_option maxRecDepth 100000 in
theorem mw_433 : (.instanceMethod yX4_houseBytes : Cond) ∈ WA := List.mem_append_left _ (List.mem_of_getElem? (i := 433) rfl)
set_option maxRecDepth 100000 in
theorem mw_434 : (.selects RX4 yX4_houseBytes yX4_houseBytes : Cond) ∈ WA := List.mem_append_left _ (List.mem_of_getElem? (i := 434) rfl)
set_option maxRecDepth 100000 in
theorem mw_435 : (.code yX10_sizes cX10_sizes 3 (some .int) : Cond) ∈ WA := List.mem_append_left _ (List.mem_of_getElem? (i := 435) rfl)
set_option maxRecDepth 100000 in
theorem mw_436 : (.methodLink RX10 247 yX10_sizes : Cond) ∈ WA := List.mem_append_left _ (List.mem_of_getElem? (i := 436) rfl)
set_option maxRecDepth 100000 in
theorem mw_437 : (.instanceMethod yX10_sizes : Cond) ∈ WA := List.mem_append_left _ (List.mem_of_getElem? (i := 437) rfl)
set_option maxRecDepth 100000 in
theorem mw_438 : (.selects RX10 yX10_sizes yX10_sizes : Cond) ∈ WA := List.mem_append_left _ (List.mem_of_getElem? (i := 438) rfl)
set_option maxRecDepth 100000 in
theorem mw_439 : (.code yX10_told cX10_told 2 (some .int) : Cond) ∈ WA := List.mem_append_left _ (List.mem_of_getElem? (i := 439) rfl)
set_option maxRecDepth 100000 in
theorem mw_440 : (.methodLink RL 73 yX10_told : Cond) ∈ WA := List.mem_append_left _ (List.mem_of_getElem? (i := 440) rfl)
set_option maxRecDepth 100000 in
theorem mw_441 : (.instanceMethod yX10_told : Cond) ∈ WA := List.mem_append_left _ (List.mem_of_getElem? (i := 441) rfl)
set_option maxRecDepth 100000 in
theorem mw_442 : (.selects RX10 yX10_told yX10_told : Cond) ∈ WA := List.mem_append_left _ (List.mem_of_getElem? (i := 442) rfl)
set_option maxRecDepth 100000 in
theorem mw_443 : (.fieldLink RX11 674 "ArrayHouseModel" "textTop" "I" : Cond) ∈ WA := List.mem_append_left _ (List.mem_of_getElem? (i := 443) rfl)
set_option maxRecDepth 100000 in
theorem mw_444 : (.code yX11_told cX11_told 6 (some .int) : Cond) ∈ WA := List.mem_append_left _ (List.mem_of_getElem? (i := 444) rfl)
set_option maxRecDepth 100000 in
theorem mw_445 : (.methodLink RL 76 yX11_told : Cond) ∈ WA := List.mem_append_left _ (List.mem_of_getElem? (i := 445) rfl)
set_option maxRecDepth 100000 in
theorem mw_446 : (.instanceMethod yX11_told : Cond) ∈ WA := List.mem_append_left _ (List.mem_of_getElem? (i := 446) rfl)
set_option maxRecDepth 100000 in
theorem mw_447 : (.selects RX11 yX11_told yX11_told : Cond) ∈ WA := List.mem_append_left _ (List.mem_of_getElem? (i := 447) rfl)
set_option maxRecDepth 100000 in
theorem mw_448 : (.code yX10_forget cX10_forget 3 (some .int) : Cond) ∈ WA := List.mem_append_left _ (List.mem_of_getElem? (i := 448) rfl)
set_option maxRecDepth 100000 in
theorem mw_449 : (.methodLink RL 77 yX10_forget : Cond) ∈ WA := List.mem_append_left _ (List.mem_of_getElem? (i := 449) rfl)
set_option maxRecDepth 100000 in
theorem mw_450 : (.instanceMethod yX10_forget : Cond) ∈ WA := List.mem_append_left _ (List.mem_of_getElem? (i := 450) rfl)
set_option maxRecDepth 100000 in
theorem mw_451 : (.selects RX10 yX10_forget yX10_forget : Cond) ∈ WA := List.mem_append_left _ (List.mem_of_getElem? (i := 451) rfl)
set_option maxRecDepth 100000 in
theorem mw_452 : (.code yX11_forget cX11_forget 3 (some .int) : Cond) ∈ WA := List.mem_append_left _ (List.mem_of_getElem? (i := 452) rfl)
set_option maxRecDepth 100000 in
theorem mw_453 : (.methodLink RL 80 yX11_forget : Cond) ∈ WA := List.mem_append_left _ (List.mem_of_getElem? (i := 453) rfl)
set_option maxRecDepth 100000 in
theorem mw_454 : (.instanceMethod yX11_forget : Cond) ∈ WA := List.mem_append_left _ (List.mem_of_getElem? (i := 454) rfl)
set_option maxRecDepth 100000 in
theorem mw_455 : (.selects RX11 yX11_forget yX11_forget : Cond) ∈ WA := List.mem_append_left _ (List.mem_of_getElem? (i := 455) rfl)
set_option maxRecDepth 100000 in
theorem mw_456 : (.constant RX10 259 2147483646 : Cond) ∈ WA := List.mem_append_left _ (List.mem_of_getElem? (i := 456) rfl)
set_option maxRecDepth 100000 in
theorem mw_457 : (.code yX10_set cX10_set 4 (some .int) : Cond) ∈ WA := List.mem_append_left _ (List.mem_of_getElem? (i := 457) rfl)
set_option maxRecDepth 100000 in
theorem mw_458 : (.methodLink RL 81 yX10_set : Cond) ∈ WA := List.mem_append_left _ (List.mem_of_getElem? (i := 458) rfl)
set_option maxRecDepth 100000 in
theorem mw_459 : (.instanceMethod yX10_set : Cond) ∈ WA := List.mem_append_left _ (List.mem_of_getElem? (i := 459) rfl)
set_option maxRecDepth 100000 in
theorem mw_460 : (.selects RX10 yX10_set yX10_set : Cond) ∈ WA := List.mem_append_left _ (List.mem_of_getElem? (i := 460) rfl)
set_option maxRecDepth 100000 in
theorem mw_461 : (.constantLong RX11 155 2147483647 : Cond) ∈ WA := List.mem_append_left _ (List.mem_of_getElem? (i := 461) rfl)
set_option maxRecDepth 100000 in
theorem mw_462 : (.code yX11_set_ cX11_set_ 4 (some .int) : Cond) ∈ WA := List.mem_append_left _ (List.mem_of_getElem? (i := 462) rfl)
set_option maxRecDepth 100000 in
theorem mw_463 : (.methodLink RL 85 yX11_set_ : Cond) ∈ WA := List.mem_append_left _ (List.mem_of_getElem? (i := 463) rfl)
set_option maxRecDepth 100000 in
theorem mw_464 : (.instanceMethod yX11_set_ : Cond) ∈ WA := List.mem_append_left _ (List.mem_of_getElem? (i := 464) rfl)
set_option maxRecDepth 100000 in
theorem mw_465 : (.selects RX11 yX11_set_ yX11_set_ : Cond) ∈ WA := List.mem_append_left _ (List.mem_of_getElem? (i := 465) rfl)
theorem iW_0 : ∀ w ∈ wsX00, w ∈ WA := fun w h => List.mem_append_right _ (List.mem_append_left _ h)
theorem iW_1 : ∀ w ∈ wsX10, w ∈ WA := fun w h => List.mem_append_right _ (List.mem_append_right _ (List.mem_append_left _ h))
theorem iW_2 : ∀ w ∈ wsX20, w ∈ WA := fun w h => List.mem_append_right _ (List.mem_append_right _ (List.mem_append_right _ (List.mem_append_left _ h)))
theorem iW_3 : ∀ w ∈ wsX30, w ∈ WA := fun w h => List.mem_append_right _ (List.mem_append_right _ (List.mem_append_right _ (List.mem_append_right _ (List.mem_append_left _ h))))
theorem iW_4 : ∀ w ∈ wsX40, w ∈ WA := fun w h => List.mem_append_right _ (List.mem_append_right _ (List.mem_append_right _ (List.mem_append_right _ (List.mem_append_right _ (List.mem_append_left _ h)))))
theorem iW_5 : ∀ w ∈ wsX50, w ∈ WA := fun w h => List.mem_append_right _ (List.mem_append_right _ (List.mem_append_right _ (List.mem_append_right _ (List.mem_append_right _ (List.mem_append_right _ (List.mem_append_left _ h))))))
theorem iW_6 : ∀ w ∈ wsX60, w ∈ WA := fun w h => List.mem_append_right _ (List.mem_append_right _ (List.mem_append_right _ (List.mem_append_right _ (List.mem_append_right _ (List.mem_append_right _ (List.mem_append_right _ (List.mem_append_left _ h)))))))
theorem iW_7 : ∀ w ∈ wsX70, w ∈ WA := fun w h => List.mem_append_right _ (List.mem_append_right _ (List.mem_append_right _ (List.mem_append_right _ (List.mem_append_right _ (List.mem_append_right _ (List.mem_append_right _ (List.mem_append_right _ (List.mem_append_left _ h))))))))
theorem iW_8 : ∀ w ∈ wsX80, w ∈ WA := fun w h => List.mem_append_right _ (List.mem_append_right _ (List.mem_append_right _ (List.mem_append_right _ (List.mem_append_right _ (List.mem_append_right _ (List.mem_append_right _ (List.mem_append_right _ (List.mem_append_right _ (List.mem_append_left _ h)))))))))
theorem iW_9 : ∀ w ∈ wsX90, w ∈ WA := fun w h => List.mem_append_right _ (List.mem_append_right _ (List.mem_append_right _ (List.mem_append_right _ (List.mem_append_right _ (List.mem_append_right _ (List.mem_append_right _ (List.mem_append_right _ (List.mem_append_right _ (List.mem_append_right _ (List.mem_append_left _ h))))))))))
theorem iW_10 : ∀ w ∈ wsX100, w ∈ WA := fun w h => List.mem_append_right _ (List.mem_append_right _ (List.mem_append_right _ (List.mem_append_right _ (List.mem_append_right _ (List.mem_append_right _ (List.mem_append_right _ (List.mem_append_right _ (List.mem_append_right _ (List.mem_append_right _ (List.mem_append_right _ (List.mem_append_left _ h)))))))))))
theorem iW_11 : ∀ w ∈ wsX110, w ∈ WA := fun w h => List.mem_append_right _ (List.mem_append_right _ (List.mem_append_right _ (List.mem_append_right _ (List.mem_append_right _ (List.mem_append_right _ (List.mem_append_right _ (List.mem_append_right _ (List.mem_append_right _ (List.mem_append_right _ (List.mem_append_right _ (List.mem_append_right _ (h))))))))))))
def NWL : List Cond := [.methodLinkNest RX10 9 yX7_init "ArrayHouse", .methodLinkNest RX10 18 yX1_init "ArrayHouse", .methodLinkNest RX10 27 yX8_init "ArrayHouse", .methodLinkNest RX10 34 yX3_init "ArrayHouse", .methodLinkNest RX10 43 yX9_init "ArrayHouse", .methodLinkNest RX10 64 yX6_init "ArrayHouse", .methodLinkNest RX10 69 yX2_init "ArrayHouse", .methodLinkNest RX4 41 yX5_init "ArrayHouse", .methodLinkNest RX0 32 yX9_init "ArrayHouse", .methodLinkNest RX4 50 yX0_init "ArrayHouse", .methodLinkNest RX10 74 yX4_init "ArrayHouse", .fieldLinkNest RX10 81 "ArrayHouse$Operators" "reader" "LArrayHouse$Reader;" "ArrayHouse", .fieldLinkNest RX10 89 "ArrayHouse$Writer" "length" "I" "ArrayHouse", .methodLinkNest RX10 95 yX7_begin "ArrayHouse", .fieldLinkNest RX10 119 "ArrayHouse$Reader" "place" "I" "ArrayHouse", .fieldLinkNest RX10 122 "ArrayHouse$Places" "deepest" "I" "ArrayHouse", .fieldLinkNest RX10 125 "ArrayHouse$Places" "guardCount" "I" "ArrayHouse", .methodLinkNest RX3 106 yX1_unsettle "ArrayHouse", .methodLinkNest RX3 110 yX1_moved "ArrayHouse", .methodLinkNest RX3 57 yX10_peek "ArrayHouse", .methodLinkNest RX3 113 yX8_unmake "ArrayHouse", .methodLinkNest RX3 118 yX1_settle "ArrayHouse", .methodLinkNest RX10 128 yX3_pack "ArrayHouse", .fieldLinkNest RX10 132 "ArrayHouse$Text" "keptLength" "I" "ArrayHouse", .methodLinkNest RX10 135 yX3_meansAt "ArrayHouse", .fieldLinkNest RX10 101 "ArrayHouse$Text" "length" "I" "ArrayHouse", .fieldLinkNest RX10 105 "ArrayHouse$Text" "count" "I" "ArrayHouse", .methodLinkNest RX10 108 yX8_scan "ArrayHouse", .fieldLinkNest RX10 116 "ArrayHouse$State" "event" "I" "ArrayHouse", .methodLinkNest RX10 158 yX8_statementEnd "ArrayHouse", .fieldLinkNest RX10 161 "ArrayHouse$Heap" "top" "I" "ArrayHouse", .fieldLinkNest RX3 89 "ArrayHouse$State" "event" "I" "ArrayHouse", .fieldLinkNest RX3 94 "ArrayHouse$Heap" "top" "I" "ArrayHouse", .methodLinkNest RX3 99 yX1_size "ArrayHouse", .methodLinkNest RX10 186 yX3_keep "ArrayHouse", .fieldLinkNest RX10 187 "ArrayHouse$State" "spent" "I" "ArrayHouse", .methodLinkNest RX4 215 yX3_meansAt "ArrayHouse", .methodLinkNest RX10 244 yX4_houseBytes "ArrayHouse", .fieldLinkNest RX10 250 "ArrayHouse$State" "origin" "I" "ArrayHouse", .fieldLinkNest RX10 253 "ArrayHouse$State" "link" "I" "ArrayHouse"]
theorem mn_0 : (.methodLinkNest RX10 9 yX7_init "ArrayHouse" : Cond) ∈ NWL := List.mem_of_getElem? (i := 0) rfl
set_option maxRecDepth 100000 in
theorem mt_0 : (.methodLinkNest RX10 9 yX7_init "ArrayHouse" : Cond) ∈ lw_tbl := List.mem_of_getElem? (i := 455) (by decide +kernel)
theorem mn_1 : (.methodLinkNest RX10 18 yX1_init "ArrayHouse" : Cond) ∈ NWL := List.mem_of_getElem? (i := 1) rfl
set_option maxRecDepth 100000 in
theorem mt_1 : (.methodLinkNest RX10 18 yX1_init "ArrayHouse" : Cond) ∈ lw_tbl := List.mem_of_getElem? (i := 492) (by decide +kernel)
theorem mn_2 : (.methodLinkNest RX10 27 yX8_init "ArrayHouse" : Cond) ∈ NWL := List.mem_of_getElem? (i := 2) rfl
set_option maxRecDepth 100000 in
theorem mt_2 : (.methodLinkNest RX10 27 yX8_init "ArrayHouse" : Cond) ∈ lw_tbl := List.mem_of_getElem? (i := 537) (by decide +kernel)
theorem mn_3 : (.methodLinkNest RX10 34 yX3_init "ArrayHouse" : Cond) ∈ NWL := List.mem_of_getElem? (i := 3) rfl
set_option maxRecDepth 100000 in
theorem mt_3 : (.methodLinkNest RX10 34 yX3_init "ArrayHouse" : Cond) ∈ lw_tbl := List.mem_of_getElem? (i := 574) (by decide +kernel)
theorem mn_4 : (.methodLinkNest RX10 43 yX9_init "ArrayHouse" : Cond) ∈ NWL := List.mem_of_getElem? (i := 4) rfl
set_option maxRecDepth 100000 in
theorem mt_4 : (.methodLinkNest RX10 43 yX9_init "ArrayHouse" : Cond) ∈ lw_tbl := List.mem_of_getElem? (i := 641) (by decide +kernel)
theorem mn_5 : (.methodLinkNest RX10 64 yX6_init "ArrayHouse" : Cond) ∈ NWL := List.mem_of_getElem? (i := 5) rfl
set_option maxRecDepth 100000 in
theorem mt_5 : (.methodLinkNest RX10 64 yX6_init "ArrayHouse" : Cond) ∈ lw_tbl := List.mem_of_getElem? (i := 668) (by decide +kernel)
theorem mn_6 : (.methodLinkNest RX10 69 yX2_init "ArrayHouse" : Cond) ∈ NWL := List.mem_of_getElem? (i := 6) rfl
set_option maxRecDepth 100000 in
theorem mt_6 : (.methodLinkNest RX10 69 yX2_init "ArrayHouse" : Cond) ∈ lw_tbl := List.mem_of_getElem? (i := 690) (by decide +kernel)
theorem mn_7 : (.methodLinkNest RX4 41 yX5_init "ArrayHouse" : Cond) ∈ NWL := List.mem_of_getElem? (i := 7) rfl
set_option maxRecDepth 100000 in
theorem mt_7 : (.methodLinkNest RX4 41 yX5_init "ArrayHouse" : Cond) ∈ lw_tbl := List.mem_of_getElem? (i := 719) (by decide +kernel)
theorem mn_8 : (.methodLinkNest RX0 32 yX9_init "ArrayHouse" : Cond) ∈ NWL := List.mem_of_getElem? (i := 8) rfl
set_option maxRecDepth 100000 in
theorem mt_8 : (.methodLinkNest RX0 32 yX9_init "ArrayHouse" : Cond) ∈ lw_tbl := List.mem_of_getElem? (i := 745) (by decide +kernel)
theorem mn_9 : (.methodLinkNest RX4 50 yX0_init "ArrayHouse" : Cond) ∈ NWL := List.mem_of_getElem? (i := 9) rfl
set_option maxRecDepth 100000 in
theorem mt_9 : (.methodLinkNest RX4 50 yX0_init "ArrayHouse" : Cond) ∈ lw_tbl := List.mem_of_getElem? (i := 740) (by decide +kernel)
theorem mn_10 : (.methodLinkNest RX10 74 yX4_init "ArrayHouse" : Cond) ∈ NWL := List.mem_of_getElem? (i := 10) rfl
set_option maxRecDepth 100000 in
theorem mt_10 : (.methodLinkNest RX10 74 yX4_init "ArrayHouse" : Cond) ∈ lw_tbl := List.mem_of_getElem? (i := 713) (by decide +kernel)
theorem mn_11 : (.fieldLinkNest RX10 81 "ArrayHouse$Operators" "reader" "LArrayHouse$Reader;" "ArrayHouse" : Cond) ∈ NWL := List.mem_of_getElem? (i := 11) rfl
set_option maxRecDepth 100000 in
theorem mt_11 : (.fieldLinkNest RX10 81 "ArrayHouse$Operators" "reader" "LArrayHouse$Reader;" "ArrayHouse" : Cond) ∈ lw_tbl := List.mem_of_getElem? (i := 698) (by decide +kernel)
theorem mn_12 : (.fieldLinkNest RX10 89 "ArrayHouse$Writer" "length" "I" "ArrayHouse" : Cond) ∈ NWL := List.mem_of_getElem? (i := 12) rfl
set_option maxRecDepth 100000 in
theorem mt_12 : (.fieldLinkNest RX10 89 "ArrayHouse$Writer" "length" "I" "ArrayHouse" : Cond) ∈ lw_tbl := List.mem_of_getElem? (i := 653) (by decide +kernel)
theorem mn_13 : (.methodLinkNest RX10 95 yX7_begin "ArrayHouse" : Cond) ∈ NWL := List.mem_of_getElem? (i := 13) rfl
set_option maxRecDepth 100000 in
theorem mt_13 : (.methodLinkNest RX10 95 yX7_begin "ArrayHouse" : Cond) ∈ lw_tbl := List.mem_of_getElem? (i := 857) (by decide +kernel)
theorem mn_14 : (.fieldLinkNest RX10 119 "ArrayHouse$Reader" "place" "I" "ArrayHouse" : Cond) ∈ NWL := List.mem_of_getElem? (i := 14) rfl
set_option maxRecDepth 100000 in
theorem mt_14 : (.fieldLinkNest RX10 119 "ArrayHouse$Reader" "place" "I" "ArrayHouse" : Cond) ∈ lw_tbl := List.mem_of_getElem? (i := 774) (by decide +kernel)
theorem mn_15 : (.fieldLinkNest RX10 122 "ArrayHouse$Places" "deepest" "I" "ArrayHouse" : Cond) ∈ NWL := List.mem_of_getElem? (i := 15) rfl
set_option maxRecDepth 100000 in
theorem mt_15 : (.fieldLinkNest RX10 122 "ArrayHouse$Places" "deepest" "I" "ArrayHouse" : Cond) ∈ lw_tbl := List.mem_of_getElem? (i := 603) (by decide +kernel)
theorem mn_16 : (.fieldLinkNest RX10 125 "ArrayHouse$Places" "guardCount" "I" "ArrayHouse" : Cond) ∈ NWL := List.mem_of_getElem? (i := 16) rfl
set_option maxRecDepth 100000 in
theorem mt_16 : (.fieldLinkNest RX10 125 "ArrayHouse$Places" "guardCount" "I" "ArrayHouse" : Cond) ∈ lw_tbl := List.mem_of_getElem? (i := 600) (by decide +kernel)
theorem mn_17 : (.methodLinkNest RX3 106 yX1_unsettle "ArrayHouse" : Cond) ∈ NWL := List.mem_of_getElem? (i := 17) rfl
set_option maxRecDepth 100000 in
theorem mt_17 : (.methodLinkNest RX3 106 yX1_unsettle "ArrayHouse" : Cond) ∈ lw_tbl := List.mem_of_getElem? (i := 869) (by decide +kernel)
theorem mn_18 : (.methodLinkNest RX3 110 yX1_moved "ArrayHouse" : Cond) ∈ NWL := List.mem_of_getElem? (i := 18) rfl
set_option maxRecDepth 100000 in
theorem mt_18 : (.methodLinkNest RX3 110 yX1_moved "ArrayHouse" : Cond) ∈ lw_tbl := List.mem_of_getElem? (i := 874) (by decide +kernel)
theorem mn_19 : (.methodLinkNest RX3 57 yX10_peek "ArrayHouse" : Cond) ∈ NWL := List.mem_of_getElem? (i := 19) rfl
set_option maxRecDepth 100000 in
theorem mt_19 : (.methodLinkNest RX3 57 yX10_peek "ArrayHouse" : Cond) ∈ lw_tbl := List.mem_of_getElem? (i := 922) (by decide +kernel)
theorem mn_20 : (.methodLinkNest RX3 113 yX8_unmake "ArrayHouse" : Cond) ∈ NWL := List.mem_of_getElem? (i := 20) rfl
set_option maxRecDepth 100000 in
theorem mt_20 : (.methodLinkNest RX3 113 yX8_unmake "ArrayHouse" : Cond) ∈ lw_tbl := List.mem_of_getElem? (i := 928) (by decide +kernel)
theorem mn_21 : (.methodLinkNest RX3 118 yX1_settle "ArrayHouse" : Cond) ∈ NWL := List.mem_of_getElem? (i := 21) rfl
set_option maxRecDepth 100000 in
theorem mt_21 : (.methodLinkNest RX3 118 yX1_settle "ArrayHouse" : Cond) ∈ lw_tbl := List.mem_of_getElem? (i := 941) (by decide +kernel)
theorem mn_22 : (.methodLinkNest RX10 128 yX3_pack "ArrayHouse" : Cond) ∈ NWL := List.mem_of_getElem? (i := 22) rfl
set_option maxRecDepth 100000 in
theorem mt_22 : (.methodLinkNest RX10 128 yX3_pack "ArrayHouse" : Cond) ∈ lw_tbl := List.mem_of_getElem? (i := 865) (by decide +kernel)
theorem mn_23 : (.fieldLinkNest RX10 132 "ArrayHouse$Text" "keptLength" "I" "ArrayHouse" : Cond) ∈ NWL := List.mem_of_getElem? (i := 23) rfl
set_option maxRecDepth 100000 in
theorem mt_23 : (.fieldLinkNest RX10 132 "ArrayHouse$Text" "keptLength" "I" "ArrayHouse" : Cond) ∈ lw_tbl := List.mem_of_getElem? (i := 550) (by decide +kernel)
theorem mn_24 : (.methodLinkNest RX10 135 yX3_meansAt "ArrayHouse" : Cond) ∈ NWL := List.mem_of_getElem? (i := 24) rfl
set_option maxRecDepth 100000 in
theorem mt_24 : (.methodLinkNest RX10 135 yX3_meansAt "ArrayHouse" : Cond) ∈ lw_tbl := List.mem_of_getElem? (i := 945) (by decide +kernel)
theorem mn_25 : (.fieldLinkNest RX10 101 "ArrayHouse$Text" "length" "I" "ArrayHouse" : Cond) ∈ NWL := List.mem_of_getElem? (i := 25) rfl
set_option maxRecDepth 100000 in
theorem mt_25 : (.fieldLinkNest RX10 101 "ArrayHouse$Text" "length" "I" "ArrayHouse" : Cond) ∈ lw_tbl := List.mem_of_getElem? (i := 545) (by decide +kernel)
theorem mn_26 : (.fieldLinkNest RX10 105 "ArrayHouse$Text" "count" "I" "ArrayHouse" : Cond) ∈ NWL := List.mem_of_getElem? (i := 26) rfl
set_option maxRecDepth 100000 in
theorem mt_26 : (.fieldLinkNest RX10 105 "ArrayHouse$Text" "count" "I" "ArrayHouse" : Cond) ∈ lw_tbl := List.mem_of_getElem? (i := 548) (by decide +kernel)
theorem mn_27 : (.methodLinkNest RX10 108 yX8_scan "ArrayHouse" : Cond) ∈ NWL := List.mem_of_getElem? (i := 27) rfl
set_option maxRecDepth 100000 in
theorem mt_27 : (.methodLinkNest RX10 108 yX8_scan "ArrayHouse" : Cond) ∈ lw_tbl := List.mem_of_getElem? (i := 1166) (by decide +kernel)
theorem mn_28 : (.fieldLinkNest RX10 116 "ArrayHouse$State" "event" "I" "ArrayHouse" : Cond) ∈ NWL := List.mem_of_getElem? (i := 28) rfl
set_option maxRecDepth 100000 in
theorem mt_28 : (.fieldLinkNest RX10 116 "ArrayHouse$State" "event" "I" "ArrayHouse" : Cond) ∈ lw_tbl := List.mem_of_getElem? (i := 462) (by decide +kernel)
theorem mn_29 : (.methodLinkNest RX10 158 yX8_statementEnd "ArrayHouse" : Cond) ∈ NWL := List.mem_of_getElem? (i := 29) rfl
set_option maxRecDepth 100000 in
theorem mt_29 : (.methodLinkNest RX10 158 yX8_statementEnd "ArrayHouse" : Cond) ∈ lw_tbl := List.mem_of_getElem? (i := 1171) (by decide +kernel)
theorem mn_30 : (.fieldLinkNest RX10 161 "ArrayHouse$Heap" "top" "I" "ArrayHouse" : Cond) ∈ NWL := List.mem_of_getElem? (i := 30) rfl
set_option maxRecDepth 100000 in
theorem mt_30 : (.fieldLinkNest RX10 161 "ArrayHouse$Heap" "top" "I" "ArrayHouse" : Cond) ∈ lw_tbl := List.mem_of_getElem? (i := 506) (by decide +kernel)
theorem mn_31 : (.fieldLinkNest RX3 89 "ArrayHouse$State" "event" "I" "ArrayHouse" : Cond) ∈ NWL := List.mem_of_getElem? (i := 31) rfl
set_option maxRecDepth 100000 in
theorem mt_31 : (.fieldLinkNest RX3 89 "ArrayHouse$State" "event" "I" "ArrayHouse" : Cond) ∈ lw_tbl := List.mem_of_getElem? (i := 464) (by decide +kernel)
theorem mn_32 : (.fieldLinkNest RX3 94 "ArrayHouse$Heap" "top" "I" "ArrayHouse" : Cond) ∈ NWL := List.mem_of_getElem? (i := 32) rfl
set_option maxRecDepth 100000 in
theorem mt_32 : (.fieldLinkNest RX3 94 "ArrayHouse$Heap" "top" "I" "ArrayHouse" : Cond) ∈ lw_tbl := List.mem_of_getElem? (i := 507) (by decide +kernel)
theorem mn_33 : (.methodLinkNest RX3 99 yX1_size "ArrayHouse" : Cond) ∈ NWL := List.mem_of_getElem? (i := 33) rfl
set_option maxRecDepth 100000 in
theorem mt_33 : (.methodLinkNest RX3 99 yX1_size "ArrayHouse" : Cond) ∈ lw_tbl := List.mem_of_getElem? (i := 1289) (by decide +kernel)
theorem mn_34 : (.methodLinkNest RX10 186 yX3_keep "ArrayHouse" : Cond) ∈ NWL := List.mem_of_getElem? (i := 34) rfl
set_option maxRecDepth 100000 in
theorem mt_34 : (.methodLinkNest RX10 186 yX3_keep "ArrayHouse" : Cond) ∈ lw_tbl := List.mem_of_getElem? (i := 2144) (by decide +kernel)
theorem mn_35 : (.fieldLinkNest RX10 187 "ArrayHouse$State" "spent" "I" "ArrayHouse" : Cond) ∈ NWL := List.mem_of_getElem? (i := 35) rfl
set_option maxRecDepth 100000 in
theorem mt_35 : (.fieldLinkNest RX10 187 "ArrayHouse$State" "spent" "I" "ArrayHouse" : Cond) ∈ lw_tbl := List.mem_of_getElem? (i := 467) (by decide +kernel)
theorem mn_36 : (.methodLinkNest RX4 215 yX3_meansAt "ArrayHouse" : Cond) ∈ NWL := List.mem_of_getElem? (i := 36) rfl
set_option maxRecDepth 100000 in
theorem mt_36 : (.methodLinkNest RX4 215 yX3_meansAt "ArrayHouse" : Cond) ∈ lw_tbl := List.mem_of_getElem? (i := 1357) (by decide +kernel)
theorem mn_37 : (.methodLinkNest RX10 244 yX4_houseBytes "ArrayHouse" : Cond) ∈ NWL := List.mem_of_getElem? (i := 37) rfl
set_option maxRecDepth 100000 in
theorem mt_37 : (.methodLinkNest RX10 244 yX4_houseBytes "ArrayHouse" : Cond) ∈ lw_tbl := List.mem_of_getElem? (i := 2225) (by decide +kernel)
theorem mn_38 : (.fieldLinkNest RX10 250 "ArrayHouse$State" "origin" "I" "ArrayHouse" : Cond) ∈ NWL := List.mem_of_getElem? (i := 38) rfl
set_option maxRecDepth 100000 in
theorem mt_38 : (.fieldLinkNest RX10 250 "ArrayHouse$State" "origin" "I" "ArrayHouse" : Cond) ∈ lw_tbl := List.mem_of_getElem? (i := 474) (by decide +kernel)
theorem mn_39 : (.fieldLinkNest RX10 253 "ArrayHouse$State" "link" "I" "ArrayHouse" : Cond) ∈ NWL := List.mem_of_getElem? (i := 39) rfl
set_option maxRecDepth 100000 in
theorem mt_39 : (.fieldLinkNest RX10 253 "ArrayHouse$State" "link" "I" "ArrayHouse" : Cond) ∈ lw_tbl := List.mem_of_getElem? (i := 478) (by decide +kernel)
theorem NWL_in : ∀ w ∈ NWL, w ∈ lw_tbl := List.forall_mem_cons.mpr ⟨mt_0, List.forall_mem_cons.mpr ⟨mt_1, List.forall_mem_cons.mpr ⟨mt_2, List.forall_mem_cons.mpr ⟨mt_3, List.forall_mem_cons.mpr ⟨mt_4, List.forall_mem_cons.mpr ⟨mt_5, List.forall_mem_cons.mpr ⟨mt_6, List.forall_mem_cons.mpr ⟨mt_7, List.forall_mem_cons.mpr ⟨mt_8, List.forall_mem_cons.mpr ⟨mt_9, List.forall_mem_cons.mpr ⟨mt_10, List.forall_mem_cons.mpr ⟨mt_11, List.forall_mem_cons.mpr ⟨mt_12, List.forall_mem_cons.mpr ⟨mt_13, List.forall_mem_cons.mpr ⟨mt_14, List.forall_mem_cons.mpr ⟨mt_15, List.forall_mem_cons.mpr ⟨mt_16, List.forall_mem_cons.mpr ⟨mt_17, List.forall_mem_cons.mpr ⟨mt_18, List.forall_mem_cons.mpr ⟨mt_19, List.forall_mem_cons.mpr ⟨mt_20, List.forall_mem_cons.mpr ⟨mt_21, List.forall_mem_cons.mpr ⟨mt_22, List.forall_mem_cons.mpr ⟨mt_23, List.forall_mem_cons.mpr ⟨mt_24, List.forall_mem_cons.mpr ⟨mt_25, List.forall_mem_cons.mpr ⟨mt_26, List.forall_mem_cons.mpr ⟨mt_27, List.forall_mem_cons.mpr ⟨mt_28, List.forall_mem_cons.mpr ⟨mt_29, List.forall_mem_cons.mpr ⟨mt_30, List.forall_mem_cons.mpr ⟨mt_31, List.forall_mem_cons.mpr ⟨mt_32, List.forall_mem_cons.mpr ⟨mt_33, List.forall_mem_cons.mpr ⟨mt_34, List.forall_mem_cons.mpr ⟨mt_35, List.forall_mem_cons.mpr ⟨mt_36, List.forall_mem_cons.mpr ⟨mt_37, List.forall_mem_cons.mpr ⟨mt_38, List.forall_mem_cons.mpr ⟨mt_39, fun _ h => absurd h List.not_mem_nil⟩⟩⟩⟩⟩⟩⟩⟩⟩⟩⟩⟩⟩⟩⟩⟩⟩⟩⟩⟩⟩⟩⟩⟩⟩⟩⟩⟩⟩⟩⟩⟩⟩⟩⟩⟩⟩⟩⟩⟩
